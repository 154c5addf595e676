def zx_step (u : Zxs) : Zxs :=
  if (zx_areBytes (zxg_pc u) 1) = 0 then (
    let u49 := zx_fault u
    u49)
  else (
    if (zx_unsignedByte u (zxg_pc u)) = 0 then (
      let u3 := zx_finish u ((zxg_pc u) + 1) 2
      u3)
    else (
      if (zx_unsignedByte u (zxg_pc u)) = 16 then (
        let u5 := zx_pushByte u
        u5)
      else (
        if (zx_unsignedByte u (zxg_pc u)) = 19 then (
          let u7 := zx_loadConstant u
          u7)
        else (
          if (zx_unsignedByte u (zxg_pc u)) = 21 then (
            let u9 := zx_loadNarrow u
            u9)
          else (
            if (zx_unsignedByte u (zxg_pc u)) = 54 then (
              let u11 := zx_storeNarrow u
              u11)
            else (
              if (zx_unsignedByte u (zxg_pc u)) = 87 then (
                let u13 := zx_pop u
                u13)
              else (
                if (zx_unsignedByte u (zxg_pc u)) = 89 then (
                  let u15 := zx_push u (zxg_top u) 1 3
                  u15)
                else (
                  if (zx_unsignedByte u (zxg_pc u)) = 95 then (
                    let u17 := zx_swap u
                    u17)
                  else (
                    if (zx_unsignedByte u (zxg_pc u)) = 96 then (
                      let u19 := zx_combine u (zx_unsignedByte u (zxg_pc u))
                      u19)
                    else (
                      if (zx_unsignedByte u (zxg_pc u)) = 100 then (
                        let u21 := zx_combine u (zx_unsignedByte u (zxg_pc u))
                        u21)
                      else (
                        if (zx_unsignedByte u (zxg_pc u)) = 126 then (
                          let u23 := zx_combine u (zx_unsignedByte u (zxg_pc u))
                          u23)
                        else (
                          if (zx_unsignedByte u (zxg_pc u)) = 128 then (
                            let u25 := zx_combine u (zx_unsignedByte u (zxg_pc u))
                            u25)
                          else (
                            if (zx_unsignedByte u (zxg_pc u)) = 132 then (
                              let u27 := zx_increase u
                              u27)
                            else (
                              if (zx_unsignedByte u (zxg_pc u)) = 153 then (
                                if (zxg_top u) = 0 then (
                                  let u31 := zx_jumpOnTop u 1
                                  u31)
                                else (
                                  let u30 := zx_jumpOnTop u 0
                                  u30))
                              else (
                                if (zx_unsignedByte u (zxg_pc u)) = 155 then (
                                  if 0 ≤ (zxg_top u) then (
                                    let u34 := zx_jumpOnTop u 0
                                    u34)
                                  else (
                                    let u35 := zx_jumpOnTop u 1
                                    u35))
                                else (
                                  if (zx_unsignedByte u (zxg_pc u)) = 159 then (
                                    let u37 := zx_jumpOnLike u
                                    u37)
                                  else (
                                    if (zx_unsignedByte u (zxg_pc u)) = 167 then (
                                      let u39 := zx_jump u 7
                                      u39)
                                    else (
                                      if (zx_unsignedByte u (zxg_pc u)) = 172 then (
                                        let u41 := zx_leave u
                                        u41)
                                      else (
                                        if (zx_unsignedByte u (zxg_pc u)) = 182 then (
                                          let u43 := zx_enter u
                                          u43)
                                        else (
                                          if (zx_unsignedByte u (zxg_pc u)) = 196 then (
                                            let u45 := zx_wide u
                                            u45)
                                          else (
                                            if (zx_unsignedByte u (zxg_pc u)) = 255 then (
                                              let u47 := zx_halt u
                                              u47)
                                            else (
                                              let u48 := zx_trap u
                                              u48))))))))))))))))))))))
set_option maxHeartbeats 4000000 in
set_option maxRecDepth 100000 in
theorem zxM_step (l : Launch) (k : Zxk) (Dk : ZxD k) (u : Zxs) : Met l yX0_step (.code yX0_step cX0_step 2 none :: wsX0_step) (zrm 5) (ZxB k [.ref (zxa_this k)] u) (ZxQ k none (zx_step u )) 0 0 (ZxA k) := by
  refine zxE_in (by decide) rfl (Nat.le_of_ble_eq_true rfl) Dk ?_
  intro p e s m below meth c ls C hr hlk hP hl
  have hx := C.1.1
  have hb := C.1.2.1
  have hl : lv_has ls 2 [(0, .ref (zxa_this k))] := hl
  have hS : va_S (ZxA k) s.heap s.heap [] := va_S.rf
  refine lv_aload_n hx hb dX0_step_0 rfl (lv_at hl 0 rfl) ?_
  refine zxG_pc C hP dX0_step_1 ?_
  refine lv_iconst (v := 1) hx hb dX0_step_4 (by decide) ?_
  refine zxK_areBytes C hl.1 (by decide) (Nat.le_of_ble_eq_true rfl) dX0_step_5 ?_
  refine lv_if_ne (tgt := 16) hx hb dX0_step_8 (by decide) (fun c1 => ?_) (fun c1 => ?_)
  · refine lv_aload_n hx hb dX0_step_16 rfl (lv_at hl 0 rfl) ?_
    refine lv_aload_n hx hb dX0_step_17 rfl (lv_at hl 0 rfl) ?_
    refine zxG_pc C hP dX0_step_18 ?_
    refine zxK_unsignedByte C hP hl.1 (by decide) (Nat.le_of_ble_eq_true rfl) (by first | with_reducible assumption | with_reducible exact zx_in (by with_reducible assumption) | with_reducible exact zx_b10 (by with_reducible assumption) | with_reducible exact zx_b21 (by with_reducible assumption) | with_reducible exact zx_b31 (by with_reducible assumption) | with_reducible exact zx_b32 (by with_reducible assumption) | with_reducible exact zx_b42 (by with_reducible assumption) | with_reducible exact zx_b43 (by with_reducible assumption) | with_reducible exact zx_b33 (by with_reducible assumption) | with_reducible exact zx_b40 (by with_reducible assumption) | with_reducible exact zx_b41 (by with_reducible assumption)) dX0_step_21 ?_
    refine lv_istore_n (lv' := [(1, .int (zx_unsignedByte u (zxg_pc u))), (0, .ref (zxa_this k))]) hx hb dX0_step_24 rfl hl (by decide) rfl (fun ls hl => ?_)
    refine lv_iload_n hx hb dX0_step_25 rfl (lv_at hl 0 rfl) ?_
    by_cases c2 : (zx_unsignedByte u (zxg_pc u)) = 0
    · refine lv_lookup (off := 178) (tgt := 204) hx hb dX0_step_26 (by decide) (z_sw c2 (by decide)) (by decide) ?_
      refine lv_aload_n hx hb dX0_step_204 rfl (lv_at hl 1 rfl) ?_
      refine lv_aload_n hx hb dX0_step_205 rfl (lv_at hl 1 rfl) ?_
      refine zxG_pc C hP dX0_step_206 ?_
      refine lv_iconst (v := 1) hx hb dX0_step_209 (by decide) ?_
      refine lv_iadd hx hb dX0_step_210 ?_
      refine lv_iconst (v := 2) hx hb dX0_step_211 (by decide) ?_
      refine zxK_finish C hP hS hl.1 (by decide) (Nat.le_of_ble_eq_true rfl) dX0_step_212 (fun u3 H locs hu3 hP hS => ?_)
      refine lv_goto (tgt := 374) hx hb dX0_step_215 (by decide) ?_
      exact zx_vret C hr hlk hP hS (by subst hu3; exact (if_neg c1).trans ((if_pos c2).trans (rfl))) dX0_step_374
    · skip
      by_cases c4 : (zx_unsignedByte u (zxg_pc u)) = 16
      · refine lv_lookup (off := 227) (tgt := 253) hx hb dX0_step_26 (by decide) (z_sw c4 (by decide)) (by decide) ?_
        refine lv_aload_n hx hb dX0_step_253 rfl (lv_at hl 1 rfl) ?_
        refine zxK_pushByte C hP hS hl.1 (by decide) (Nat.le_of_ble_eq_true rfl) dX0_step_254 (fun u5 H locs hu5 hP hS => ?_)
        refine lv_goto (tgt := 374) hx hb dX0_step_257 (by decide) ?_
        exact zx_vret C hr hlk hP hS (by subst hu5; exact (if_neg c1).trans ((if_neg c2).trans ((if_pos c4).trans (rfl)))) dX0_step_374
      · skip
        by_cases c6 : (zx_unsignedByte u (zxg_pc u)) = 19
        · refine lv_lookup (off := 255) (tgt := 281) hx hb dX0_step_26 (by decide) (z_sw c6 (by decide)) (by decide) ?_
          refine lv_aload_n hx hb dX0_step_281 rfl (lv_at hl 1 rfl) ?_
          refine zxK_loadConstant C hP hS hl.1 (by decide) (Nat.le_of_ble_eq_true rfl) dX0_step_282 (fun u7 H locs hu7 hP hS => ?_)
          refine lv_goto (tgt := 374) hx hb dX0_step_285 (by decide) ?_
          exact zx_vret C hr hlk hP hS (by subst hu7; exact (if_neg c1).trans ((if_neg c2).trans ((if_neg c4).trans ((if_pos c6).trans (rfl))))) dX0_step_374
        · skip
          by_cases c8 : (zx_unsignedByte u (zxg_pc u)) = 21
          · refine lv_lookup (off := 234) (tgt := 260) hx hb dX0_step_26 (by decide) (z_sw c8 (by decide)) (by decide) ?_
            refine lv_aload_n hx hb dX0_step_260 rfl (lv_at hl 1 rfl) ?_
            refine zxK_loadNarrow C hP hS hl.1 (by decide) (Nat.le_of_ble_eq_true rfl) dX0_step_261 (fun u9 H locs hu9 hP hS => ?_)
            refine lv_goto (tgt := 374) hx hb dX0_step_264 (by decide) ?_
            exact zx_vret C hr hlk hP hS (by subst hu9; exact (if_neg c1).trans ((if_neg c2).trans ((if_neg c4).trans ((if_neg c6).trans ((if_pos c8).trans (rfl)))))) dX0_step_374
          · skip
            by_cases c10 : (zx_unsignedByte u (zxg_pc u)) = 54
            · refine lv_lookup (off := 241) (tgt := 267) hx hb dX0_step_26 (by decide) (z_sw c10 (by decide)) (by decide) ?_
              refine lv_aload_n hx hb dX0_step_267 rfl (lv_at hl 1 rfl) ?_
              refine zxK_storeNarrow C hP hS hl.1 (by decide) (Nat.le_of_ble_eq_true rfl) dX0_step_268 (fun u11 H locs hu11 hP hS => ?_)
              refine lv_goto (tgt := 374) hx hb dX0_step_271 (by decide) ?_
              exact zx_vret C hr hlk hP hS (by subst hu11; exact (if_neg c1).trans ((if_neg c2).trans ((if_neg c4).trans ((if_neg c6).trans ((if_neg c8).trans ((if_pos c10).trans (rfl))))))) dX0_step_374
            · skip
              by_cases c12 : (zx_unsignedByte u (zxg_pc u)) = 87
              · refine lv_lookup (off := 213) (tgt := 239) hx hb dX0_step_26 (by decide) (z_sw c12 (by decide)) (by decide) ?_
                refine lv_aload_n hx hb dX0_step_239 rfl (lv_at hl 1 rfl) ?_
                refine zxK_pop C hP hS hl.1 (by decide) (Nat.le_of_ble_eq_true rfl) dX0_step_240 (fun u13 H locs hu13 hP hS => ?_)
                refine lv_goto (tgt := 374) hx hb dX0_step_243 (by decide) ?_
                exact zx_vret C hr hlk hP hS (by subst hu13; exact (if_neg c1).trans ((if_neg c2).trans ((if_neg c4).trans ((if_neg c6).trans ((if_neg c8).trans ((if_neg c10).trans ((if_pos c12).trans (rfl)))))))) dX0_step_374
              · skip
                by_cases c14 : (zx_unsignedByte u (zxg_pc u)) = 89
                · refine lv_lookup (off := 200) (tgt := 226) hx hb dX0_step_26 (by decide) (z_sw c14 (by decide)) (by decide) ?_
                  refine lv_aload_n hx hb dX0_step_226 rfl (lv_at hl 1 rfl) ?_
                  refine lv_aload_n hx hb dX0_step_227 rfl (lv_at hl 1 rfl) ?_
                  refine zxG_top C hP dX0_step_228 ?_
                  refine lv_iconst (v := 1) hx hb dX0_step_231 (by decide) ?_
                  refine lv_iconst (v := 3) hx hb dX0_step_232 (by decide) ?_
                  refine zxK_push C hP hS hl.1 (by decide) (Nat.le_of_ble_eq_true rfl) dX0_step_233 (fun u15 H locs hu15 hP hS => ?_)
                  refine lv_goto (tgt := 374) hx hb dX0_step_236 (by decide) ?_
                  exact zx_vret C hr hlk hP hS (by subst hu15; exact (if_neg c1).trans ((if_neg c2).trans ((if_neg c4).trans ((if_neg c6).trans ((if_neg c8).trans ((if_neg c10).trans ((if_neg c12).trans ((if_pos c14).trans (rfl))))))))) dX0_step_374
                · skip
                  by_cases c16 : (zx_unsignedByte u (zxg_pc u)) = 95
                  · refine lv_lookup (off := 220) (tgt := 246) hx hb dX0_step_26 (by decide) (z_sw c16 (by decide)) (by decide) ?_
                    refine lv_aload_n hx hb dX0_step_246 rfl (lv_at hl 1 rfl) ?_
                    refine zxK_swap C hP hS hl.1 (by decide) (Nat.le_of_ble_eq_true rfl) dX0_step_247 (fun u17 H locs hu17 hP hS => ?_)
                    refine lv_goto (tgt := 374) hx hb dX0_step_250 (by decide) ?_
                    exact zx_vret C hr hlk hP hS (by subst hu17; exact (if_neg c1).trans ((if_neg c2).trans ((if_neg c4).trans ((if_neg c6).trans ((if_neg c8).trans ((if_neg c10).trans ((if_neg c12).trans ((if_neg c14).trans ((if_pos c16).trans (rfl)))))))))) dX0_step_374
                  · skip
                    by_cases c18 : (zx_unsignedByte u (zxg_pc u)) = 96
                    · refine lv_lookup (off := 192) (tgt := 218) hx hb dX0_step_26 (by decide) (z_sw c18 (by decide)) (by decide) ?_
                      refine lv_aload_n hx hb dX0_step_218 rfl (lv_at hl 1 rfl) ?_
                      refine lv_iload_n hx hb dX0_step_219 rfl (lv_at hl 0 rfl) ?_
                      refine zxK_combine C hP hS hl.1 (by decide) (Nat.le_of_ble_eq_true rfl) dX0_step_220 (fun u19 H locs hu19 hP hS => ?_)
                      refine lv_goto (tgt := 374) hx hb dX0_step_223 (by decide) ?_
                      exact zx_vret C hr hlk hP hS (by subst hu19; exact (if_neg c1).trans ((if_neg c2).trans ((if_neg c4).trans ((if_neg c6).trans ((if_neg c8).trans ((if_neg c10).trans ((if_neg c12).trans ((if_neg c14).trans ((if_neg c16).trans ((if_pos c18).trans (rfl))))))))))) dX0_step_374
                    · skip
                      by_cases c20 : (zx_unsignedByte u (zxg_pc u)) = 100
                      · refine lv_lookup (off := 192) (tgt := 218) hx hb dX0_step_26 (by decide) (z_sw c20 (by decide)) (by decide) ?_
                        refine lv_aload_n hx hb dX0_step_218 rfl (lv_at hl 1 rfl) ?_
                        refine lv_iload_n hx hb dX0_step_219 rfl (lv_at hl 0 rfl) ?_
                        refine zxK_combine C hP hS hl.1 (by decide) (Nat.le_of_ble_eq_true rfl) dX0_step_220 (fun u21 H locs hu21 hP hS => ?_)
                        refine lv_goto (tgt := 374) hx hb dX0_step_223 (by decide) ?_
                        exact zx_vret C hr hlk hP hS (by subst hu21; exact (if_neg c1).trans ((if_neg c2).trans ((if_neg c4).trans ((if_neg c6).trans ((if_neg c8).trans ((if_neg c10).trans ((if_neg c12).trans ((if_neg c14).trans ((if_neg c16).trans ((if_neg c18).trans ((if_pos c20).trans (rfl)))))))))))) dX0_step_374
                      · skip
                        by_cases c22 : (zx_unsignedByte u (zxg_pc u)) = 126
                        · refine lv_lookup (off := 192) (tgt := 218) hx hb dX0_step_26 (by decide) (z_sw c22 (by decide)) (by decide) ?_
                          refine lv_aload_n hx hb dX0_step_218 rfl (lv_at hl 1 rfl) ?_
                          refine lv_iload_n hx hb dX0_step_219 rfl (lv_at hl 0 rfl) ?_
                          refine zxK_combine C hP hS hl.1 (by decide) (Nat.le_of_ble_eq_true rfl) dX0_step_220 (fun u23 H locs hu23 hP hS => ?_)
                          refine lv_goto (tgt := 374) hx hb dX0_step_223 (by decide) ?_
                          exact zx_vret C hr hlk hP hS (by subst hu23; exact (if_neg c1).trans ((if_neg c2).trans ((if_neg c4).trans ((if_neg c6).trans ((if_neg c8).trans ((if_neg c10).trans ((if_neg c12).trans ((if_neg c14).trans ((if_neg c16).trans ((if_neg c18).trans ((if_neg c20).trans ((if_pos c22).trans (rfl))))))))))))) dX0_step_374
                        · skip
                          by_cases c24 : (zx_unsignedByte u (zxg_pc u)) = 128
                          · refine lv_lookup (off := 192) (tgt := 218) hx hb dX0_step_26 (by decide) (z_sw c24 (by decide)) (by decide) ?_
                            refine lv_aload_n hx hb dX0_step_218 rfl (lv_at hl 1 rfl) ?_
                            refine lv_iload_n hx hb dX0_step_219 rfl (lv_at hl 0 rfl) ?_
                            refine zxK_combine C hP hS hl.1 (by decide) (Nat.le_of_ble_eq_true rfl) dX0_step_220 (fun u25 H locs hu25 hP hS => ?_)
                            refine lv_goto (tgt := 374) hx hb dX0_step_223 (by decide) ?_
                            exact zx_vret C hr hlk hP hS (by subst hu25; exact (if_neg c1).trans ((if_neg c2).trans ((if_neg c4).trans ((if_neg c6).trans ((if_neg c8).trans ((if_neg c10).trans ((if_neg c12).trans ((if_neg c14).trans ((if_neg c16).trans ((if_neg c18).trans ((if_neg c20).trans ((if_neg c22).trans ((if_pos c24).trans (rfl)))))))))))))) dX0_step_374
                          · skip
                            by_cases c26 : (zx_unsignedByte u (zxg_pc u)) = 132
                            · refine lv_lookup (off := 262) (tgt := 288) hx hb dX0_step_26 (by decide) (z_sw c26 (by decide)) (by decide) ?_
                              refine lv_aload_n hx hb dX0_step_288 rfl (lv_at hl 1 rfl) ?_
                              refine zxK_increase C hP hS hl.1 (by decide) (Nat.le_of_ble_eq_true rfl) dX0_step_289 (fun u27 H locs hu27 hP hS => ?_)
                              refine lv_goto (tgt := 374) hx hb dX0_step_292 (by decide) ?_
                              exact zx_vret C hr hlk hP hS (by subst hu27; exact (if_neg c1).trans ((if_neg c2).trans ((if_neg c4).trans ((if_neg c6).trans ((if_neg c8).trans ((if_neg c10).trans ((if_neg c12).trans ((if_neg c14).trans ((if_neg c16).trans ((if_neg c18).trans ((if_neg c20).trans ((if_neg c22).trans ((if_neg c24).trans ((if_pos c26).trans (rfl))))))))))))))) dX0_step_374
                            · skip
                              by_cases c28 : (zx_unsignedByte u (zxg_pc u)) = 153
                              · refine lv_lookup (off := 297) (tgt := 323) hx hb dX0_step_26 (by decide) (z_sw c28 (by decide)) (by decide) ?_
                                refine lv_aload_n hx hb dX0_step_323 rfl (lv_at hl 1 rfl) ?_
                                refine lv_aload_n hx hb dX0_step_324 rfl (lv_at hl 1 rfl) ?_
                                refine zxG_top C hP dX0_step_325 ?_
                                refine lv_if_ne (tgt := 335) hx hb dX0_step_328 (by decide) (fun c29 => ?_) (fun c29 => ?_)
                                · refine lv_iconst (v := 0) hx hb dX0_step_335 (by decide) ?_
                                  refine zxK_jumpOnTop C hP hS hl.1 (by decide) (Nat.le_of_ble_eq_true rfl) dX0_step_336 (fun u30 H locs hu30 hP hS => ?_)
                                  refine lv_goto (tgt := 374) hx hb dX0_step_339 (by decide) ?_
                                  exact zx_vret C hr hlk hP hS (by subst hu30; exact (if_neg c1).trans ((if_neg c2).trans ((if_neg c4).trans ((if_neg c6).trans ((if_neg c8).trans ((if_neg c10).trans ((if_neg c12).trans ((if_neg c14).trans ((if_neg c16).trans ((if_neg c18).trans ((if_neg c20).trans ((if_neg c22).trans ((if_neg c24).trans ((if_neg c26).trans ((if_pos c28).trans ((if_neg c29).trans (rfl))))))))))))))))) dX0_step_374
                                · refine lv_iconst (v := 1) hx hb dX0_step_331 (by decide) ?_
                                  refine lv_goto (tgt := 336) hx hb dX0_step_332 (by decide) ?_
                                  refine zxK_jumpOnTop C hP hS hl.1 (by decide) (Nat.le_of_ble_eq_true rfl) dX0_step_336 (fun u31 H locs hu31 hP hS => ?_)
                                  refine lv_goto (tgt := 374) hx hb dX0_step_339 (by decide) ?_
                                  exact zx_vret C hr hlk hP hS (by subst hu31; exact (if_neg c1).trans ((if_neg c2).trans ((if_neg c4).trans ((if_neg c6).trans ((if_neg c8).trans ((if_neg c10).trans ((if_neg c12).trans ((if_neg c14).trans ((if_neg c16).trans ((if_neg c18).trans ((if_neg c20).trans ((if_neg c22).trans ((if_neg c24).trans ((if_neg c26).trans ((if_pos c28).trans ((if_pos c29).trans (rfl))))))))))))))))) dX0_step_374
                              · skip
                                by_cases c32 : (zx_unsignedByte u (zxg_pc u)) = 155
                                · refine lv_lookup (off := 278) (tgt := 304) hx hb dX0_step_26 (by decide) (z_sw c32 (by decide)) (by decide) ?_
                                  refine lv_aload_n hx hb dX0_step_304 rfl (lv_at hl 1 rfl) ?_
                                  refine lv_aload_n hx hb dX0_step_305 rfl (lv_at hl 1 rfl) ?_
                                  refine zxG_top C hP dX0_step_306 ?_
                                  refine lv_if_ge (tgt := 316) hx hb dX0_step_309 (by decide) (fun c33 => ?_) (fun c33 => ?_)
                                  · refine lv_iconst (v := 0) hx hb dX0_step_316 (by decide) ?_
                                    refine zxK_jumpOnTop C hP hS hl.1 (by decide) (Nat.le_of_ble_eq_true rfl) dX0_step_317 (fun u34 H locs hu34 hP hS => ?_)
                                    refine lv_goto (tgt := 374) hx hb dX0_step_320 (by decide) ?_
                                    exact zx_vret C hr hlk hP hS (by subst hu34; exact (if_neg c1).trans ((if_neg c2).trans ((if_neg c4).trans ((if_neg c6).trans ((if_neg c8).trans ((if_neg c10).trans ((if_neg c12).trans ((if_neg c14).trans ((if_neg c16).trans ((if_neg c18).trans ((if_neg c20).trans ((if_neg c22).trans ((if_neg c24).trans ((if_neg c26).trans ((if_neg c28).trans ((if_pos c32).trans ((if_pos c33).trans (rfl)))))))))))))))))) dX0_step_374
                                  · refine lv_iconst (v := 1) hx hb dX0_step_312 (by decide) ?_
                                    refine lv_goto (tgt := 317) hx hb dX0_step_313 (by decide) ?_
                                    refine zxK_jumpOnTop C hP hS hl.1 (by decide) (Nat.le_of_ble_eq_true rfl) dX0_step_317 (fun u35 H locs hu35 hP hS => ?_)
                                    refine lv_goto (tgt := 374) hx hb dX0_step_320 (by decide) ?_
                                    exact zx_vret C hr hlk hP hS (by subst hu35; exact (if_neg c1).trans ((if_neg c2).trans ((if_neg c4).trans ((if_neg c6).trans ((if_neg c8).trans ((if_neg c10).trans ((if_neg c12).trans ((if_neg c14).trans ((if_neg c16).trans ((if_neg c18).trans ((if_neg c20).trans ((if_neg c22).trans ((if_neg c24).trans ((if_neg c26).trans ((if_neg c28).trans ((if_pos c32).trans ((if_neg c33).trans (rfl)))))))))))))))))) dX0_step_374
                                · skip
                                  by_cases c36 : (zx_unsignedByte u (zxg_pc u)) = 159
                                  · refine lv_lookup (off := 316) (tgt := 342) hx hb dX0_step_26 (by decide) (z_sw c36 (by decide)) (by decide) ?_
                                    refine lv_aload_n hx hb dX0_step_342 rfl (lv_at hl 1 rfl) ?_
                                    refine zxK_jumpOnLike C hP hS hl.1 (by decide) (Nat.le_of_ble_eq_true rfl) dX0_step_343 (fun u37 H locs hu37 hP hS => ?_)
                                    refine lv_goto (tgt := 374) hx hb dX0_step_346 (by decide) ?_
                                    exact zx_vret C hr hlk hP hS (by subst hu37; exact (if_neg c1).trans ((if_neg c2).trans ((if_neg c4).trans ((if_neg c6).trans ((if_neg c8).trans ((if_neg c10).trans ((if_neg c12).trans ((if_neg c14).trans ((if_neg c16).trans ((if_neg c18).trans ((if_neg c20).trans ((if_neg c22).trans ((if_neg c24).trans ((if_neg c26).trans ((if_neg c28).trans ((if_neg c32).trans ((if_pos c36).trans (rfl)))))))))))))))))) dX0_step_374
                                  · skip
                                    by_cases c38 : (zx_unsignedByte u (zxg_pc u)) = 167
                                    · refine lv_lookup (off := 269) (tgt := 295) hx hb dX0_step_26 (by decide) (z_sw c38 (by decide)) (by decide) ?_
                                      refine lv_aload_n hx hb dX0_step_295 rfl (lv_at hl 1 rfl) ?_
                                      refine lv_bipush (v := 7) hx hb dX0_step_296 (by decide) ?_
                                      refine zxK_jump C hP hS hl.1 (by decide) (Nat.le_of_ble_eq_true rfl) dX0_step_298 (fun u39 H locs hu39 hP hS => ?_)
                                      refine lv_goto (tgt := 374) hx hb dX0_step_301 (by decide) ?_
                                      exact zx_vret C hr hlk hP hS (by subst hu39; exact (if_neg c1).trans ((if_neg c2).trans ((if_neg c4).trans ((if_neg c6).trans ((if_neg c8).trans ((if_neg c10).trans ((if_neg c12).trans ((if_neg c14).trans ((if_neg c16).trans ((if_neg c18).trans ((if_neg c20).trans ((if_neg c22).trans ((if_neg c24).trans ((if_neg c26).trans ((if_neg c28).trans ((if_neg c32).trans ((if_neg c36).trans ((if_pos c38).trans (rfl))))))))))))))))))) dX0_step_374
                                    · skip
                                      by_cases c40 : (zx_unsignedByte u (zxg_pc u)) = 172
                                      · refine lv_lookup (off := 330) (tgt := 356) hx hb dX0_step_26 (by decide) (z_sw c40 (by decide)) (by decide) ?_
                                        refine lv_aload_n hx hb dX0_step_356 rfl (lv_at hl 1 rfl) ?_
                                        refine zxK_leave C hP hS hl.1 (by decide) (Nat.le_of_ble_eq_true rfl) dX0_step_357 (fun u41 H locs hu41 hP hS => ?_)
                                        refine lv_goto (tgt := 374) hx hb dX0_step_360 (by decide) ?_
                                        exact zx_vret C hr hlk hP hS (by subst hu41; exact (if_neg c1).trans ((if_neg c2).trans ((if_neg c4).trans ((if_neg c6).trans ((if_neg c8).trans ((if_neg c10).trans ((if_neg c12).trans ((if_neg c14).trans ((if_neg c16).trans ((if_neg c18).trans ((if_neg c20).trans ((if_neg c22).trans ((if_neg c24).trans ((if_neg c26).trans ((if_neg c28).trans ((if_neg c32).trans ((if_neg c36).trans ((if_neg c38).trans ((if_pos c40).trans (rfl)))))))))))))))))))) dX0_step_374
                                      · skip
                                        by_cases c42 : (zx_unsignedByte u (zxg_pc u)) = 182
                                        · refine lv_lookup (off := 323) (tgt := 349) hx hb dX0_step_26 (by decide) (z_sw c42 (by decide)) (by decide) ?_
                                          refine lv_aload_n hx hb dX0_step_349 rfl (lv_at hl 1 rfl) ?_
                                          refine zxK_enter C hP hS hl.1 (by decide) (Nat.le_of_ble_eq_true rfl) dX0_step_350 (fun u43 H locs hu43 hP hS => ?_)
                                          refine lv_goto (tgt := 374) hx hb dX0_step_353 (by decide) ?_
                                          exact zx_vret C hr hlk hP hS (by subst hu43; exact (if_neg c1).trans ((if_neg c2).trans ((if_neg c4).trans ((if_neg c6).trans ((if_neg c8).trans ((if_neg c10).trans ((if_neg c12).trans ((if_neg c14).trans ((if_neg c16).trans ((if_neg c18).trans ((if_neg c20).trans ((if_neg c22).trans ((if_neg c24).trans ((if_neg c26).trans ((if_neg c28).trans ((if_neg c32).trans ((if_neg c36).trans ((if_neg c38).trans ((if_neg c40).trans ((if_pos c42).trans (rfl))))))))))))))))))))) dX0_step_374
                                        · skip
                                          by_cases c44 : (zx_unsignedByte u (zxg_pc u)) = 196
                                          · refine lv_lookup (off := 248) (tgt := 274) hx hb dX0_step_26 (by decide) (z_sw c44 (by decide)) (by decide) ?_
                                            refine lv_aload_n hx hb dX0_step_274 rfl (lv_at hl 1 rfl) ?_
                                            refine zxK_wide C hP hS hl.1 (by decide) (Nat.le_of_ble_eq_true rfl) dX0_step_275 (fun u45 H locs hu45 hP hS => ?_)
                                            refine lv_goto (tgt := 374) hx hb dX0_step_278 (by decide) ?_
                                            exact zx_vret C hr hlk hP hS (by subst hu45; exact (if_neg c1).trans ((if_neg c2).trans ((if_neg c4).trans ((if_neg c6).trans ((if_neg c8).trans ((if_neg c10).trans ((if_neg c12).trans ((if_neg c14).trans ((if_neg c16).trans ((if_neg c18).trans ((if_neg c20).trans ((if_neg c22).trans ((if_neg c24).trans ((if_neg c26).trans ((if_neg c28).trans ((if_neg c32).trans ((if_neg c36).trans ((if_neg c38).trans ((if_neg c40).trans ((if_neg c42).trans ((if_pos c44).trans (rfl)))))))))))))))))))))) dX0_step_374
                                          · skip
                                            by_cases c46 : (zx_unsignedByte u (zxg_pc u)) = 255
                                            · refine lv_lookup (off := 337) (tgt := 363) hx hb dX0_step_26 (by decide) (z_sw c46 (by decide)) (by decide) ?_
                                              refine lv_aload_n hx hb dX0_step_363 rfl (lv_at hl 1 rfl) ?_
                                              refine zxK_halt C hP hS hl.1 (by decide) (Nat.le_of_ble_eq_true rfl) dX0_step_364 (fun u47 H locs hu47 hP hS => ?_)
                                              refine lv_goto (tgt := 374) hx hb dX0_step_367 (by decide) ?_
                                              exact zx_vret C hr hlk hP hS (by subst hu47; exact (if_neg c1).trans ((if_neg c2).trans ((if_neg c4).trans ((if_neg c6).trans ((if_neg c8).trans ((if_neg c10).trans ((if_neg c12).trans ((if_neg c14).trans ((if_neg c16).trans ((if_neg c18).trans ((if_neg c20).trans ((if_neg c22).trans ((if_neg c24).trans ((if_neg c26).trans ((if_neg c28).trans ((if_neg c32).trans ((if_neg c36).trans ((if_neg c38).trans ((if_neg c40).trans ((if_neg c42).trans ((if_neg c44).trans ((if_pos c46).trans (rfl))))))))))))))))))))))) dX0_step_374
                                            · skip
                                              refine lv_lookup (off := 344) (tgt := 370) hx hb dX0_step_26 (by decide) ((lv_osw c2 (by decide)).trans ((lv_osw c4 (by decide)).trans ((lv_osw c6 (by decide)).trans ((lv_osw c8 (by decide)).trans ((lv_osw c10 (by decide)).trans ((lv_osw c12 (by decide)).trans ((lv_osw c14 (by decide)).trans ((lv_osw c16 (by decide)).trans ((lv_osw c18 (by decide)).trans ((lv_osw c20 (by decide)).trans ((lv_osw c22 (by decide)).trans ((lv_osw c24 (by decide)).trans ((lv_osw c26 (by decide)).trans ((lv_osw c28 (by decide)).trans ((lv_osw c32 (by decide)).trans ((lv_osw c36 (by decide)).trans ((lv_osw c38 (by decide)).trans ((lv_osw c40 (by decide)).trans ((lv_osw c42 (by decide)).trans ((lv_osw c44 (by decide)).trans ((lv_osw c46 (by decide)).trans (rfl)))))))))))))))))))))) (by decide) ?_
                                              refine lv_aload_n hx hb dX0_step_370 rfl (lv_at hl 1 rfl) ?_
                                              refine zxK_trap C hP hS hl.1 (by decide) (Nat.le_of_ble_eq_true rfl) dX0_step_371 (fun u48 H locs hu48 hP hS => ?_)
                                              exact zx_vret C hr hlk hP hS (by subst hu48; exact (if_neg c1).trans ((if_neg c2).trans ((if_neg c4).trans ((if_neg c6).trans ((if_neg c8).trans ((if_neg c10).trans ((if_neg c12).trans ((if_neg c14).trans ((if_neg c16).trans ((if_neg c18).trans ((if_neg c20).trans ((if_neg c22).trans ((if_neg c24).trans ((if_neg c26).trans ((if_neg c28).trans ((if_neg c32).trans ((if_neg c36).trans ((if_neg c38).trans ((if_neg c40).trans ((if_neg c42).trans ((if_neg c44).trans ((if_neg c46).trans (rfl))))))))))))))))))))))) dX0_step_374
  · refine lv_aload_n hx hb dX0_step_11 rfl (lv_at hl 0 rfl) ?_
    refine zxK_fault C hP hS hl.1 (by decide) (Nat.le_of_ble_eq_true rfl) dX0_step_12 (fun u49 H locs hu49 hP hS => ?_)
    exact zx_vret C hr hlk hP hS (by subst hu49; exact (if_pos c1).trans (rfl)) dX0_step_15

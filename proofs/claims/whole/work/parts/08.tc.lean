def zt_perform (u : Zts) (a1 : Int32) : Int32 × Zts :=
  let u1 := zts_next u ((ztg_pc u) + 1)
  if a1 = 0 then (
    (2, u1))
  else (
    if a1 = 16 then (
      let r5 := (zt_byteAt u1 ((ztg_pc u1) + 1)).1
      let u4 := (zt_byteAt u1 ((ztg_pc u1) + 1)).2
      let r7 := (zt_push u4 (zt_signed r5 8) 2 4).1
      let u6 := (zt_push u4 (zt_signed r5 8) 2 4).2
      (r7, u6))
    else (
      if a1 = 19 then (
        let r10 := (zt_pair u1 ((ztg_pc u1) + 1)).1
        let u9 := (zt_pair u1 ((ztg_pc u1) + 1)).2
        let r12 := (zt_read u9 ((ztg_cpp u1) + r10)).1
        let u11 := (zt_read u9 ((ztg_cpp u1) + r10)).2
        let r14 := (zt_push u11 r12 3 8).1
        let u13 := (zt_push u11 r12 3 8).2
        (r14, u13))
      else (
        if a1 = 21 then (
          let r17 := (zt_byteAt u1 ((ztg_pc u1) + 1)).1
          let u16 := (zt_byteAt u1 ((ztg_pc u1) + 1)).2
          let r19 := (zt_read u16 ((ztg_lv u1) + r17)).1
          let u18 := (zt_read u16 ((ztg_lv u1) + r17)).2
          let r21 := (zt_push u18 r19 2 6).1
          let u20 := (zt_push u18 r19 2 6).2
          (r21, u20))
        else (
          if a1 = 54 then (
            let r24 := (zt_byteAt u1 ((ztg_pc u1) + 1)).1
            let u23 := (zt_byteAt u1 ((ztg_pc u1) + 1)).2
            let r26 := (zt_store u23 ((ztg_lv u1) + r24) 2 7).1
            let u25 := (zt_store u23 ((ztg_lv u1) + r24) 2 7).2
            (r26, u25))
          else (
            if a1 = 87 then (
              let u28 := zts_sp u1 ((ztg_sp u1) - 1)
              let r30 := (zt_read u28 (ztg_sp u28)).1
              let u29 := (zt_read u28 (ztg_sp u28)).2
              let u31 := zts_top u29 r30
              (4, u31))
            else (
              if a1 = 89 then (
                let r34 := (zt_push u1 (ztg_top u1) 1 3).1
                let u33 := (zt_push u1 (ztg_top u1) 1 3).2
                (r34, u33))
              else (
                if a1 = 95 then (
                  let r37 := (zt_swap u1).1
                  let u36 := (zt_swap u1).2
                  (r37, u36))
                else (
                  if a1 = 96 then (
                    let r40 := (zt_reckon u1 a1).1
                    let u39 := (zt_reckon u1 a1).2
                    (r40, u39))
                  else (
                    if a1 = 100 then (
                      let r43 := (zt_reckon u1 a1).1
                      let u42 := (zt_reckon u1 a1).2
                      (r43, u42))
                    else (
                      if a1 = 126 then (
                        let r46 := (zt_reckon u1 a1).1
                        let u45 := (zt_reckon u1 a1).2
                        (r46, u45))
                      else (
                        if a1 = 128 then (
                          let r49 := (zt_reckon u1 a1).1
                          let u48 := (zt_reckon u1 a1).2
                          (r49, u48))
                        else (
                          if a1 = 132 then (
                            let r52 := (zt_increase u1).1
                            let u51 := (zt_increase u1).2
                            (r52, u51))
                          else (
                            if a1 = 153 then (
                              let r55 := (zt_ifs u1 a1).1
                              let u54 := (zt_ifs u1 a1).2
                              (r55, u54))
                            else (
                              if a1 = 155 then (
                                let r58 := (zt_ifs u1 a1).1
                                let u57 := (zt_ifs u1 a1).2
                                (r58, u57))
                              else (
                                if a1 = 159 then (
                                  let r61 := (zt_ifs u1 a1).1
                                  let u60 := (zt_ifs u1 a1).2
                                  (r61, u60))
                                else (
                                  if a1 = 167 then (
                                    let r64 := (zt_jump u1 1 7 7).1
                                    let u63 := (zt_jump u1 1 7 7).2
                                    (r64, u63))
                                  else (
                                    if a1 = 172 then (
                                      let r67 := (zt_giveBack u1).1
                                      let u66 := (zt_giveBack u1).2
                                      (r67, u66))
                                    else (
                                      if a1 = 182 then (
                                        let r70 := (zt_call u1).1
                                        let u69 := (zt_call u1).2
                                        (r70, u69))
                                      else (
                                        if a1 = 196 then (
                                          let r73 := (zt_wide u1).1
                                          let u72 := (zt_wide u1).2
                                          (r73, u72))
                                        else (
                                          if a1 = 255 then (
                                            let u75 := zts_next u1 (ztg_pc u1)
                                            (2, u75))
                                          else (
                                            let u76 := zts_unknown u1 1
                                            (0, u76))))))))))))))))))))))
set_option maxHeartbeats 4000000 in
set_option maxRecDepth 100000 in
theorem ztM_perform (l : Launch) (k : Ztk) (Dk : ZtD k) (u : Zts) (a1 : Int32) {w0 : Nat → Int32} (hN : ZtG w0 4 u) : Met l yX1_perform (.code yX1_perform cX1_perform 2 (some .int) :: zwT) (zrm 4) (ZtB k [.ref (zta_this k), .int a1] u) (ZtQ k (some (.int (zt_perform u a1).1)) (zt_perform u a1).2) 0 0 (ZtA k) := by
  refine ztE_in (by decide) rfl (Nat.le_of_ble_eq_true rfl) Dk ?_
  intro p e s m below meth c ls C hr hlk hP hl
  have hx := C.1.1
  have hb := C.1.2.1
  have hl : lv_has ls 2 [(0, .ref (zta_this k)), (1, .int a1)] := hl
  have hS : va_S (ZtA k) s.heap s.heap [] := va_S.rf
  refine lv_aload_n hx hb dX1_perform_0 rfl (lv_at hl 0 rfl) ?_
  refine lv_aload_n hx hb dX1_perform_1 rfl (lv_at hl 0 rfl) ?_
  refine ztG_pc C hP dX1_perform_2 ?_
  refine lv_iconst (v := 1) hx hb dX1_perform_5 (by decide) ?_
  refine lv_iadd hx hb dX1_perform_6 ?_
  refine ztP_next C hP hS dX1_perform_7 (fun u1 H locs hu1 hP hS => ?_)
  refine lv_iload_n hx hb dX1_perform_10 rfl (lv_at hl 1 rfl) ?_
  by_cases c2 : a1 = 0
  · refine lv_lookup (off := 177) (tgt := 188) hx hb dX1_perform_11 (by decide) (z_sw c2 (by decide)) (by decide) ?_
    refine lv_iconst (v := 2) hx hb dX1_perform_188 (by decide) ?_
    exact zt_iret C hr hlk hP hS (by subst hu1; exact (if_pos c2).trans (rfl)) dX1_perform_189
  · skip
    by_cases c3 : a1 = 16
    · refine lv_lookup (off := 225) (tgt := 236) hx hb dX1_perform_11 (by decide) (z_sw c3 (by decide)) (by decide) ?_
      refine lv_aload_n hx hb dX1_perform_236 rfl (lv_at hl 0 rfl) ?_
      refine lv_aload_n hx hb dX1_perform_237 rfl (lv_at hl 0 rfl) ?_
      refine lv_aload_n hx hb dX1_perform_238 rfl (lv_at hl 0 rfl) ?_
      refine ztG_pc C hP dX1_perform_239 ?_
      refine lv_iconst (v := 1) hx hb dX1_perform_242 (by decide) ?_
      refine lv_iadd hx hb dX1_perform_243 ?_
      refine ztK_byteAt C hP hS hl.1 (by decide) (Nat.le_of_ble_eq_true rfl) dX1_perform_244 (fun r5 u4 H locs hr5 hu4 hP hS => ?_)
      refine lv_bipush (v := 8) hx hb dX1_perform_247 (by decide) ?_
      refine ztK_signed C hl.1 (by decide) (Nat.le_of_ble_eq_true rfl) dX1_perform_249 ?_
      refine lv_iconst (v := 2) hx hb dX1_perform_252 (by decide) ?_
      refine lv_iconst (v := 4) hx hb dX1_perform_253 (by decide) ?_
      refine ztK_push C hP hS hl.1 (by decide) (Nat.le_of_ble_eq_true rfl) (by subst hu1 hr5 hu4; exact zt_Gle (by decide) (zt_G_byteAt _ (zt_Gs_next _ (hN)))) dX1_perform_254 (fun r7 u6 H locs hr7 hu6 hP hS => ?_)
      exact zt_iret C hr hlk hP hS (by subst hu1 hr5 hu4 hr7 hu6; exact (if_neg c2).trans ((if_pos c3).trans (rfl))) dX1_perform_257
    · skip
      by_cases c8 : a1 = 19
      · refine lv_lookup (off := 302) (tgt := 313) hx hb dX1_perform_11 (by decide) (z_sw c8 (by decide)) (by decide) ?_
        refine lv_aload_n hx hb dX1_perform_313 rfl (lv_at hl 0 rfl) ?_
        refine lv_aload_n hx hb dX1_perform_314 rfl (lv_at hl 0 rfl) ?_
        refine lv_aload_n hx hb dX1_perform_315 rfl (lv_at hl 0 rfl) ?_
        refine ztG_cpp C hP dX1_perform_316 ?_
        refine lv_aload_n hx hb dX1_perform_319 rfl (lv_at hl 0 rfl) ?_
        refine lv_aload_n hx hb dX1_perform_320 rfl (lv_at hl 0 rfl) ?_
        refine ztG_pc C hP dX1_perform_321 ?_
        refine lv_iconst (v := 1) hx hb dX1_perform_324 (by decide) ?_
        refine lv_iadd hx hb dX1_perform_325 ?_
        refine ztK_pair C hP hS hl.1 (by decide) (Nat.le_of_ble_eq_true rfl) dX1_perform_326 (fun r10 u9 H locs hr10 hu9 hP hS => ?_)
        refine lv_iadd hx hb dX1_perform_329 ?_
        refine ztK_read C hP hS hl.1 (by decide) (Nat.le_of_ble_eq_true rfl) dX1_perform_330 (fun r12 u11 H locs hr12 hu11 hP hS => ?_)
        refine lv_iconst (v := 3) hx hb dX1_perform_333 (by decide) ?_
        refine lv_bipush (v := 8) hx hb dX1_perform_334 (by decide) ?_
        refine ztK_push C hP hS hl.1 (by decide) (Nat.le_of_ble_eq_true rfl) (by subst hu1 hr10 hu9 hr12 hu11; exact zt_Gle (by decide) (zt_G_read _ (zt_G_pair _ (zt_Gs_next _ (hN))))) dX1_perform_336 (fun r14 u13 H locs hr14 hu13 hP hS => ?_)
        exact zt_iret C hr hlk hP hS (by subst hu1 hr10 hu9 hr12 hu11 hr14 hu13; exact (if_neg c2).trans ((if_neg c3).trans ((if_pos c8).trans (rfl)))) dX1_perform_339
      · skip
        by_cases c15 : a1 = 21
        · refine lv_lookup (off := 247) (tgt := 258) hx hb dX1_perform_11 (by decide) (z_sw c15 (by decide)) (by decide) ?_
          refine lv_aload_n hx hb dX1_perform_258 rfl (lv_at hl 0 rfl) ?_
          refine lv_aload_n hx hb dX1_perform_259 rfl (lv_at hl 0 rfl) ?_
          refine lv_aload_n hx hb dX1_perform_260 rfl (lv_at hl 0 rfl) ?_
          refine ztG_lv C hP dX1_perform_261 ?_
          refine lv_aload_n hx hb dX1_perform_264 rfl (lv_at hl 0 rfl) ?_
          refine lv_aload_n hx hb dX1_perform_265 rfl (lv_at hl 0 rfl) ?_
          refine ztG_pc C hP dX1_perform_266 ?_
          refine lv_iconst (v := 1) hx hb dX1_perform_269 (by decide) ?_
          refine lv_iadd hx hb dX1_perform_270 ?_
          refine ztK_byteAt C hP hS hl.1 (by decide) (Nat.le_of_ble_eq_true rfl) dX1_perform_271 (fun r17 u16 H locs hr17 hu16 hP hS => ?_)
          refine lv_iadd hx hb dX1_perform_274 ?_
          refine ztK_read C hP hS hl.1 (by decide) (Nat.le_of_ble_eq_true rfl) dX1_perform_275 (fun r19 u18 H locs hr19 hu18 hP hS => ?_)
          refine lv_iconst (v := 2) hx hb dX1_perform_278 (by decide) ?_
          refine lv_bipush (v := 6) hx hb dX1_perform_279 (by decide) ?_
          refine ztK_push C hP hS hl.1 (by decide) (Nat.le_of_ble_eq_true rfl) (by subst hu1 hr17 hu16 hr19 hu18; exact zt_Gle (by decide) (zt_G_read _ (zt_G_byteAt _ (zt_Gs_next _ (hN))))) dX1_perform_281 (fun r21 u20 H locs hr21 hu20 hP hS => ?_)
          exact zt_iret C hr hlk hP hS (by subst hu1 hr17 hu16 hr19 hu18 hr21 hu20; exact (if_neg c2).trans ((if_neg c3).trans ((if_neg c8).trans ((if_pos c15).trans (rfl))))) dX1_perform_284
        · skip
          by_cases c22 : a1 = 54
          · refine lv_lookup (off := 274) (tgt := 285) hx hb dX1_perform_11 (by decide) (z_sw c22 (by decide)) (by decide) ?_
            refine lv_aload_n hx hb dX1_perform_285 rfl (lv_at hl 0 rfl) ?_
            refine lv_aload_n hx hb dX1_perform_286 rfl (lv_at hl 0 rfl) ?_
            refine ztG_lv C hP dX1_perform_287 ?_
            refine lv_aload_n hx hb dX1_perform_290 rfl (lv_at hl 0 rfl) ?_
            refine lv_aload_n hx hb dX1_perform_291 rfl (lv_at hl 0 rfl) ?_
            refine ztG_pc C hP dX1_perform_292 ?_
            refine lv_iconst (v := 1) hx hb dX1_perform_295 (by decide) ?_
            refine lv_iadd hx hb dX1_perform_296 ?_
            refine ztK_byteAt C hP hS hl.1 (by decide) (Nat.le_of_ble_eq_true rfl) dX1_perform_297 (fun r24 u23 H locs hr24 hu23 hP hS => ?_)
            refine lv_iadd hx hb dX1_perform_300 ?_
            refine lv_iconst (v := 2) hx hb dX1_perform_301 (by decide) ?_
            refine lv_bipush (v := 7) hx hb dX1_perform_302 (by decide) ?_
            refine ztK_store C hP hS hl.1 (by decide) (Nat.le_of_ble_eq_true rfl) (by subst hu1 hr24 hu23; exact zt_Gle (by decide) (zt_G_byteAt _ (zt_Gs_next _ (hN)))) dX1_perform_304 (fun r26 u25 H locs hr26 hu25 hP hS => ?_)
            exact zt_iret C hr hlk hP hS (by subst hu1 hr24 hu23 hr26 hu25; exact (if_neg c2).trans ((if_neg c3).trans ((if_neg c8).trans ((if_neg c15).trans ((if_pos c22).trans (rfl)))))) dX1_perform_307
          · skip
            by_cases c27 : a1 = 87
            · refine lv_lookup (off := 196) (tgt := 207) hx hb dX1_perform_11 (by decide) (z_sw c27 (by decide)) (by decide) ?_
              refine lv_aload_n hx hb dX1_perform_207 rfl (lv_at hl 0 rfl) ?_
              refine lv_dup hx hb dX1_perform_208 rfl ?_
              refine ztG_sp C hP dX1_perform_209 ?_
              refine lv_iconst (v := 1) hx hb dX1_perform_212 (by decide) ?_
              refine lv_isub hx hb dX1_perform_213 ?_
              refine ztP_sp C hP hS dX1_perform_214 (fun u28 H locs hu28 hP hS => ?_)
              refine lv_aload_n hx hb dX1_perform_217 rfl (lv_at hl 0 rfl) ?_
              refine lv_aload_n hx hb dX1_perform_218 rfl (lv_at hl 0 rfl) ?_
              refine lv_aload_n hx hb dX1_perform_219 rfl (lv_at hl 0 rfl) ?_
              refine ztG_sp C hP dX1_perform_220 ?_
              refine ztK_read C hP hS hl.1 (by decide) (Nat.le_of_ble_eq_true rfl) dX1_perform_223 (fun r30 u29 H locs hr30 hu29 hP hS => ?_)
              refine ztP_top C hP hS dX1_perform_226 (fun u31 H locs hu31 hP hS => ?_)
              refine lv_iconst (v := 4) hx hb dX1_perform_229 (by decide) ?_
              exact zt_iret C hr hlk hP hS (by subst hu1 hu28 hr30 hu29 hu31; exact (if_neg c2).trans ((if_neg c3).trans ((if_neg c8).trans ((if_neg c15).trans ((if_neg c22).trans ((if_pos c27).trans (rfl))))))) dX1_perform_230
            · skip
              by_cases c32 : a1 = 89
              · refine lv_lookup (off := 185) (tgt := 196) hx hb dX1_perform_11 (by decide) (z_sw c32 (by decide)) (by decide) ?_
                refine lv_aload_n hx hb dX1_perform_196 rfl (lv_at hl 0 rfl) ?_
                refine lv_aload_n hx hb dX1_perform_197 rfl (lv_at hl 0 rfl) ?_
                refine ztG_top C hP dX1_perform_198 ?_
                refine lv_iconst (v := 1) hx hb dX1_perform_201 (by decide) ?_
                refine lv_iconst (v := 3) hx hb dX1_perform_202 (by decide) ?_
                refine ztK_push C hP hS hl.1 (by decide) (Nat.le_of_ble_eq_true rfl) (by subst hu1; exact zt_Gle (by decide) (zt_Gs_next _ (hN))) dX1_perform_203 (fun r34 u33 H locs hr34 hu33 hP hS => ?_)
                exact zt_iret C hr hlk hP hS (by subst hu1 hr34 hu33; exact (if_neg c2).trans ((if_neg c3).trans ((if_neg c8).trans ((if_neg c15).trans ((if_neg c22).trans ((if_neg c27).trans ((if_pos c32).trans (rfl)))))))) dX1_perform_206
              · skip
                by_cases c35 : a1 = 95
                · refine lv_lookup (off := 220) (tgt := 231) hx hb dX1_perform_11 (by decide) (z_sw c35 (by decide)) (by decide) ?_
                  refine lv_aload_n hx hb dX1_perform_231 rfl (lv_at hl 0 rfl) ?_
                  refine ztK_swap C hP hS hl.1 (by decide) (Nat.le_of_ble_eq_true rfl) (by subst hu1; exact zt_Gle (by decide) (zt_Gs_next _ (hN))) dX1_perform_232 (fun r37 u36 H locs hr37 hu36 hP hS => ?_)
                  exact zt_iret C hr hlk hP hS (by subst hu1 hr37 hu36; exact (if_neg c2).trans ((if_neg c3).trans ((if_neg c8).trans ((if_neg c15).trans ((if_neg c22).trans ((if_neg c27).trans ((if_neg c32).trans ((if_pos c35).trans (rfl))))))))) dX1_perform_235
                · skip
                  by_cases c38 : a1 = 96
                  · refine lv_lookup (off := 179) (tgt := 190) hx hb dX1_perform_11 (by decide) (z_sw c38 (by decide)) (by decide) ?_
                    refine lv_aload_n hx hb dX1_perform_190 rfl (lv_at hl 0 rfl) ?_
                    refine lv_iload_n hx hb dX1_perform_191 rfl (lv_at hl 1 rfl) ?_
                    refine ztK_reckon C hP hS hl.1 (by decide) (Nat.le_of_ble_eq_true rfl) (by subst hu1; exact zt_Gle (by decide) (zt_Gs_next _ (hN))) dX1_perform_192 (fun r40 u39 H locs hr40 hu39 hP hS => ?_)
                    exact zt_iret C hr hlk hP hS (by subst hu1 hr40 hu39; exact (if_neg c2).trans ((if_neg c3).trans ((if_neg c8).trans ((if_neg c15).trans ((if_neg c22).trans ((if_neg c27).trans ((if_neg c32).trans ((if_neg c35).trans ((if_pos c38).trans (rfl)))))))))) dX1_perform_195
                  · skip
                    by_cases c41 : a1 = 100
                    · refine lv_lookup (off := 179) (tgt := 190) hx hb dX1_perform_11 (by decide) (z_sw c41 (by decide)) (by decide) ?_
                      refine lv_aload_n hx hb dX1_perform_190 rfl (lv_at hl 0 rfl) ?_
                      refine lv_iload_n hx hb dX1_perform_191 rfl (lv_at hl 1 rfl) ?_
                      refine ztK_reckon C hP hS hl.1 (by decide) (Nat.le_of_ble_eq_true rfl) (by subst hu1; exact zt_Gle (by decide) (zt_Gs_next _ (hN))) dX1_perform_192 (fun r43 u42 H locs hr43 hu42 hP hS => ?_)
                      exact zt_iret C hr hlk hP hS (by subst hu1 hr43 hu42; exact (if_neg c2).trans ((if_neg c3).trans ((if_neg c8).trans ((if_neg c15).trans ((if_neg c22).trans ((if_neg c27).trans ((if_neg c32).trans ((if_neg c35).trans ((if_neg c38).trans ((if_pos c41).trans (rfl))))))))))) dX1_perform_195
                    · skip
                      by_cases c44 : a1 = 126
                      · refine lv_lookup (off := 179) (tgt := 190) hx hb dX1_perform_11 (by decide) (z_sw c44 (by decide)) (by decide) ?_
                        refine lv_aload_n hx hb dX1_perform_190 rfl (lv_at hl 0 rfl) ?_
                        refine lv_iload_n hx hb dX1_perform_191 rfl (lv_at hl 1 rfl) ?_
                        refine ztK_reckon C hP hS hl.1 (by decide) (Nat.le_of_ble_eq_true rfl) (by subst hu1; exact zt_Gle (by decide) (zt_Gs_next _ (hN))) dX1_perform_192 (fun r46 u45 H locs hr46 hu45 hP hS => ?_)
                        exact zt_iret C hr hlk hP hS (by subst hu1 hr46 hu45; exact (if_neg c2).trans ((if_neg c3).trans ((if_neg c8).trans ((if_neg c15).trans ((if_neg c22).trans ((if_neg c27).trans ((if_neg c32).trans ((if_neg c35).trans ((if_neg c38).trans ((if_neg c41).trans ((if_pos c44).trans (rfl)))))))))))) dX1_perform_195
                      · skip
                        by_cases c47 : a1 = 128
                        · refine lv_lookup (off := 179) (tgt := 190) hx hb dX1_perform_11 (by decide) (z_sw c47 (by decide)) (by decide) ?_
                          refine lv_aload_n hx hb dX1_perform_190 rfl (lv_at hl 0 rfl) ?_
                          refine lv_iload_n hx hb dX1_perform_191 rfl (lv_at hl 1 rfl) ?_
                          refine ztK_reckon C hP hS hl.1 (by decide) (Nat.le_of_ble_eq_true rfl) (by subst hu1; exact zt_Gle (by decide) (zt_Gs_next _ (hN))) dX1_perform_192 (fun r49 u48 H locs hr49 hu48 hP hS => ?_)
                          exact zt_iret C hr hlk hP hS (by subst hu1 hr49 hu48; exact (if_neg c2).trans ((if_neg c3).trans ((if_neg c8).trans ((if_neg c15).trans ((if_neg c22).trans ((if_neg c27).trans ((if_neg c32).trans ((if_neg c35).trans ((if_neg c38).trans ((if_neg c41).trans ((if_neg c44).trans ((if_pos c47).trans (rfl))))))))))))) dX1_perform_195
                        · skip
                          by_cases c50 : a1 = 132
                          · refine lv_lookup (off := 329) (tgt := 340) hx hb dX1_perform_11 (by decide) (z_sw c50 (by decide)) (by decide) ?_
                            refine lv_aload_n hx hb dX1_perform_340 rfl (lv_at hl 0 rfl) ?_
                            refine ztK_increase C hP hS hl.1 (by decide) (Nat.le_of_ble_eq_true rfl) (by subst hu1; exact zt_Gle (by decide) (zt_Gs_next _ (hN))) dX1_perform_341 (fun r52 u51 H locs hr52 hu51 hP hS => ?_)
                            exact zt_iret C hr hlk hP hS (by subst hu1 hr52 hu51; exact (if_neg c2).trans ((if_neg c3).trans ((if_neg c8).trans ((if_neg c15).trans ((if_neg c22).trans ((if_neg c27).trans ((if_neg c32).trans ((if_neg c35).trans ((if_neg c38).trans ((if_neg c41).trans ((if_neg c44).trans ((if_neg c47).trans ((if_pos c50).trans (rfl)))))))))))))) dX1_perform_344
                          · skip
                            by_cases c53 : a1 = 153
                            · refine lv_lookup (off := 344) (tgt := 355) hx hb dX1_perform_11 (by decide) (z_sw c53 (by decide)) (by decide) ?_
                              refine lv_aload_n hx hb dX1_perform_355 rfl (lv_at hl 0 rfl) ?_
                              refine lv_iload_n hx hb dX1_perform_356 rfl (lv_at hl 1 rfl) ?_
                              refine ztK_ifs C hP hS hl.1 (by decide) (Nat.le_of_ble_eq_true rfl) dX1_perform_357 (fun r55 u54 H locs hr55 hu54 hP hS => ?_)
                              exact zt_iret C hr hlk hP hS (by subst hu1 hr55 hu54; exact (if_neg c2).trans ((if_neg c3).trans ((if_neg c8).trans ((if_neg c15).trans ((if_neg c22).trans ((if_neg c27).trans ((if_neg c32).trans ((if_neg c35).trans ((if_neg c38).trans ((if_neg c41).trans ((if_neg c44).trans ((if_neg c47).trans ((if_neg c50).trans ((if_pos c53).trans (rfl))))))))))))))) dX1_perform_360
                            · skip
                              by_cases c56 : a1 = 155
                              · refine lv_lookup (off := 344) (tgt := 355) hx hb dX1_perform_11 (by decide) (z_sw c56 (by decide)) (by decide) ?_
                                refine lv_aload_n hx hb dX1_perform_355 rfl (lv_at hl 0 rfl) ?_
                                refine lv_iload_n hx hb dX1_perform_356 rfl (lv_at hl 1 rfl) ?_
                                refine ztK_ifs C hP hS hl.1 (by decide) (Nat.le_of_ble_eq_true rfl) dX1_perform_357 (fun r58 u57 H locs hr58 hu57 hP hS => ?_)
                                exact zt_iret C hr hlk hP hS (by subst hu1 hr58 hu57; exact (if_neg c2).trans ((if_neg c3).trans ((if_neg c8).trans ((if_neg c15).trans ((if_neg c22).trans ((if_neg c27).trans ((if_neg c32).trans ((if_neg c35).trans ((if_neg c38).trans ((if_neg c41).trans ((if_neg c44).trans ((if_neg c47).trans ((if_neg c50).trans ((if_neg c53).trans ((if_pos c56).trans (rfl)))))))))))))))) dX1_perform_360
                              · skip
                                by_cases c59 : a1 = 159
                                · refine lv_lookup (off := 344) (tgt := 355) hx hb dX1_perform_11 (by decide) (z_sw c59 (by decide)) (by decide) ?_
                                  refine lv_aload_n hx hb dX1_perform_355 rfl (lv_at hl 0 rfl) ?_
                                  refine lv_iload_n hx hb dX1_perform_356 rfl (lv_at hl 1 rfl) ?_
                                  refine ztK_ifs C hP hS hl.1 (by decide) (Nat.le_of_ble_eq_true rfl) dX1_perform_357 (fun r61 u60 H locs hr61 hu60 hP hS => ?_)
                                  exact zt_iret C hr hlk hP hS (by subst hu1 hr61 hu60; exact (if_neg c2).trans ((if_neg c3).trans ((if_neg c8).trans ((if_neg c15).trans ((if_neg c22).trans ((if_neg c27).trans ((if_neg c32).trans ((if_neg c35).trans ((if_neg c38).trans ((if_neg c41).trans ((if_neg c44).trans ((if_neg c47).trans ((if_neg c50).trans ((if_neg c53).trans ((if_neg c56).trans ((if_pos c59).trans (rfl))))))))))))))))) dX1_perform_360
                                · skip
                                  by_cases c62 : a1 = 167
                                  · refine lv_lookup (off := 334) (tgt := 345) hx hb dX1_perform_11 (by decide) (z_sw c62 (by decide)) (by decide) ?_
                                    refine lv_aload_n hx hb dX1_perform_345 rfl (lv_at hl 0 rfl) ?_
                                    refine lv_iconst (v := 1) hx hb dX1_perform_346 (by decide) ?_
                                    refine lv_bipush (v := 7) hx hb dX1_perform_347 (by decide) ?_
                                    refine lv_bipush (v := 7) hx hb dX1_perform_349 (by decide) ?_
                                    refine ztK_jump C hP hS hl.1 (by decide) (Nat.le_of_ble_eq_true rfl) dX1_perform_351 (fun r64 u63 H locs hr64 hu63 hP hS => ?_)
                                    exact zt_iret C hr hlk hP hS (by subst hu1 hr64 hu63; exact (if_neg c2).trans ((if_neg c3).trans ((if_neg c8).trans ((if_neg c15).trans ((if_neg c22).trans ((if_neg c27).trans ((if_neg c32).trans ((if_neg c35).trans ((if_neg c38).trans ((if_neg c41).trans ((if_neg c44).trans ((if_neg c47).trans ((if_neg c50).trans ((if_neg c53).trans ((if_neg c56).trans ((if_neg c59).trans ((if_pos c62).trans (rfl)))))))))))))))))) dX1_perform_354
                                  · skip
                                    by_cases c65 : a1 = 172
                                    · refine lv_lookup (off := 355) (tgt := 366) hx hb dX1_perform_11 (by decide) (z_sw c65 (by decide)) (by decide) ?_
                                      refine lv_aload_n hx hb dX1_perform_366 rfl (lv_at hl 0 rfl) ?_
                                      refine ztK_giveBack C hP hS hl.1 (by decide) (Nat.le_of_ble_eq_true rfl) (by subst hu1; exact zt_Gle (by decide) (zt_Gs_next _ (hN))) dX1_perform_367 (fun r67 u66 H locs hr67 hu66 hP hS => ?_)
                                      exact zt_iret C hr hlk hP hS (by subst hu1 hr67 hu66; exact (if_neg c2).trans ((if_neg c3).trans ((if_neg c8).trans ((if_neg c15).trans ((if_neg c22).trans ((if_neg c27).trans ((if_neg c32).trans ((if_neg c35).trans ((if_neg c38).trans ((if_neg c41).trans ((if_neg c44).trans ((if_neg c47).trans ((if_neg c50).trans ((if_neg c53).trans ((if_neg c56).trans ((if_neg c59).trans ((if_neg c62).trans ((if_pos c65).trans (rfl))))))))))))))))))) dX1_perform_370
                                    · skip
                                      by_cases c68 : a1 = 182
                                      · refine lv_lookup (off := 350) (tgt := 361) hx hb dX1_perform_11 (by decide) (z_sw c68 (by decide)) (by decide) ?_
                                        refine lv_aload_n hx hb dX1_perform_361 rfl (lv_at hl 0 rfl) ?_
                                        refine ztK_call C hP hS hl.1 (by decide) (Nat.le_of_ble_eq_true rfl) (by subst hu1; exact zt_Gle (by decide) (zt_Gs_next _ (hN))) dX1_perform_362 (fun r70 u69 H locs hr70 hu69 hP hS => ?_)
                                        exact zt_iret C hr hlk hP hS (by subst hu1 hr70 hu69; exact (if_neg c2).trans ((if_neg c3).trans ((if_neg c8).trans ((if_neg c15).trans ((if_neg c22).trans ((if_neg c27).trans ((if_neg c32).trans ((if_neg c35).trans ((if_neg c38).trans ((if_neg c41).trans ((if_neg c44).trans ((if_neg c47).trans ((if_neg c50).trans ((if_neg c53).trans ((if_neg c56).trans ((if_neg c59).trans ((if_neg c62).trans ((if_neg c65).trans ((if_pos c68).trans (rfl)))))))))))))))))))) dX1_perform_365
                                      · skip
                                        by_cases c71 : a1 = 196
                                        · refine lv_lookup (off := 297) (tgt := 308) hx hb dX1_perform_11 (by decide) (z_sw c71 (by decide)) (by decide) ?_
                                          refine lv_aload_n hx hb dX1_perform_308 rfl (lv_at hl 0 rfl) ?_
                                          refine ztK_wide C hP hS hl.1 (by decide) (Nat.le_of_ble_eq_true rfl) (by subst hu1; exact zt_Gle (by decide) (zt_Gs_next _ (hN))) dX1_perform_309 (fun r73 u72 H locs hr73 hu72 hP hS => ?_)
                                          exact zt_iret C hr hlk hP hS (by subst hu1 hr73 hu72; exact (if_neg c2).trans ((if_neg c3).trans ((if_neg c8).trans ((if_neg c15).trans ((if_neg c22).trans ((if_neg c27).trans ((if_neg c32).trans ((if_neg c35).trans ((if_neg c38).trans ((if_neg c41).trans ((if_neg c44).trans ((if_neg c47).trans ((if_neg c50).trans ((if_neg c53).trans ((if_neg c56).trans ((if_neg c59).trans ((if_neg c62).trans ((if_neg c65).trans ((if_neg c68).trans ((if_pos c71).trans (rfl))))))))))))))))))))) dX1_perform_312
                                        · skip
                                          by_cases c74 : a1 = 255
                                          · refine lv_lookup (off := 360) (tgt := 371) hx hb dX1_perform_11 (by decide) (z_sw c74 (by decide)) (by decide) ?_
                                            refine lv_aload_n hx hb dX1_perform_371 rfl (lv_at hl 0 rfl) ?_
                                            refine lv_aload_n hx hb dX1_perform_372 rfl (lv_at hl 0 rfl) ?_
                                            refine ztG_pc C hP dX1_perform_373 ?_
                                            refine ztP_next C hP hS dX1_perform_376 (fun u75 H locs hu75 hP hS => ?_)
                                            refine lv_iconst (v := 2) hx hb dX1_perform_379 (by decide) ?_
                                            exact zt_iret C hr hlk hP hS (by subst hu1 hu75; exact (if_neg c2).trans ((if_neg c3).trans ((if_neg c8).trans ((if_neg c15).trans ((if_neg c22).trans ((if_neg c27).trans ((if_neg c32).trans ((if_neg c35).trans ((if_neg c38).trans ((if_neg c41).trans ((if_neg c44).trans ((if_neg c47).trans ((if_neg c50).trans ((if_neg c53).trans ((if_neg c56).trans ((if_neg c59).trans ((if_neg c62).trans ((if_neg c65).trans ((if_neg c68).trans ((if_neg c71).trans ((if_pos c74).trans (rfl)))))))))))))))))))))) dX1_perform_380
                                          · skip
                                            refine lv_lookup (off := 370) (tgt := 381) hx hb dX1_perform_11 (by decide) ((lv_osw c2 (by decide)).trans ((lv_osw c3 (by decide)).trans ((lv_osw c8 (by decide)).trans ((lv_osw c15 (by decide)).trans ((lv_osw c22 (by decide)).trans ((lv_osw c27 (by decide)).trans ((lv_osw c32 (by decide)).trans ((lv_osw c35 (by decide)).trans ((lv_osw c38 (by decide)).trans ((lv_osw c41 (by decide)).trans ((lv_osw c44 (by decide)).trans ((lv_osw c47 (by decide)).trans ((lv_osw c50 (by decide)).trans ((lv_osw c53 (by decide)).trans ((lv_osw c56 (by decide)).trans ((lv_osw c59 (by decide)).trans ((lv_osw c62 (by decide)).trans ((lv_osw c65 (by decide)).trans ((lv_osw c68 (by decide)).trans ((lv_osw c71 (by decide)).trans ((lv_osw c74 (by decide)).trans (rfl)))))))))))))))))))))) (by decide) ?_
                                            refine lv_aload_n hx hb dX1_perform_381 rfl (lv_at hl 0 rfl) ?_
                                            refine lv_iconst (v := 1) hx hb dX1_perform_382 (by decide) ?_
                                            refine ztP_unknown C hP hS rfl rfl dX1_perform_383 (fun u76 H locs hu76 hP hS => ?_)
                                            refine lv_iconst (v := 0) hx hb dX1_perform_386 (by decide) ?_
                                            exact zt_iret C hr hlk hP hS (by subst hu1 hu76; exact (if_neg c2).trans ((if_neg c3).trans ((if_neg c8).trans ((if_neg c15).trans ((if_neg c22).trans ((if_neg c27).trans ((if_neg c32).trans ((if_neg c35).trans ((if_neg c38).trans ((if_neg c41).trans ((if_neg c44).trans ((if_neg c47).trans ((if_neg c50).trans ((if_neg c53).trans ((if_neg c56).trans ((if_neg c59).trans ((if_neg c62).trans ((if_neg c65).trans ((if_neg c68).trans ((if_neg c71).trans ((if_neg c74).trans (rfl)))))))))))))))))))))) dX1_perform_387
section
variable {p : Program} {l : Launch} {e : Env} {R : Room} {s : State} {m : MethodId} {args : Array Value} {below : List Frame} {meth : Method} {c : Code} {H : Heap} {locs : List Loc} {Q : State → Prop} {cc : ByteArray} {pc nL : Nat} {ls : Array Slot} {rest : List Value} {k : Ztk} {u : Zts} {H0 : Heap}
set_option maxHeartbeats 4000000 in
set_option maxRecDepth 100000 in
theorem ztK_perform {a1 : Int32} (C : ZtC p s m args c cc nL k) (hP : ZtP k u H) (hS : va_S (ZtA k) H0 H locs) (hsz : ls.size = nL) (hR : 4 + 1 ≤ R.frames ∧ 8 + (2 + 11) + 40 * 4 ≤ R.locals) (hw : (rest.map fun v => v.category).sum ≤ 8) {w0 : Nat → Int32} (hN : ZtG w0 4 u) (hdg : decode cc pc = .ok (.invokevirtual 118, 3)) (kk : ∀ (r1 : Int32) (u1 : Zts) (H1 : Heap) (locs1 : List Loc), r1 = (zt_perform u a1).1 → u1 = (zt_perform u a1).2 → ZtP k u1 H1 → va_S (ZtA k) H0 H1 locs1 → W p l e R s m args below meth c H1 locs1 0 0 Q (F0 m (pc + 3) ls (.int r1 :: rest))) : W p l e R s m args below meth c H locs 0 0 Q (F0 m pc ls (.int a1 :: .ref (zta_this k) :: rest)) :=
  zt_callV (y := yX1_perform) (n := 1) (As := [.int a1]) C (ztM_perform l k C.2.2 u a1 hN) zwT_c_perform zwT_l_perform zwT_i_perform zwT_v_perform rfl (by decide +kernel) hP hS hsz hR hw rfl hdg (fun H1 locs1 hP1 hS1 => kk _ _ H1 locs1 rfl rfl hP1 hS1)
end
theorem zt_G_perform {w0 : Nat → Int32} {n : Nat} {u : Zts} (a1 : Int32) (hn : n ≤ 4) (h : ZtG w0 n u) : ZtG w0 (n + 3) (zt_perform u a1).2 := by
  unfold zt_perform
  dsimp only
  repeat' split
  all_goals first | exact zt_Gle (by omega) (zt_Gs_next _ (h)) | exact zt_Gle (by omega) (zt_G_ifs _ (zt_Gs_next _ (h))) | exact zt_Gle (by omega) (zt_Gs_next _ (zt_Gs_next _ (h))) | exact zt_Gle (by omega) (zt_G_jump _ _ _ (zt_Gs_next _ (h))) | exact zt_Gle (by omega) (zt_Gs_unknown _ (zt_Gs_next _ (h))) | exact zt_Gle (by omega) (zt_G_call  (by omega) (zt_Gs_next _ (h))) | exact zt_Gle (by omega) (zt_G_wide  (by omega) (zt_Gs_next _ (h))) | exact zt_Gle (by omega) (zt_G_swap  (by omega) (zt_Gs_next _ (h))) | exact zt_Gle (by omega) (zt_G_reckon _ (by omega) (zt_Gs_next _ (h))) | exact zt_Gle (by omega) (zt_G_giveBack  (by omega) (zt_Gs_next _ (h))) | exact zt_Gle (by omega) (zt_G_increase  (by omega) (zt_Gs_next _ (h))) | exact zt_Gle (by omega) (zt_G_push _ _ _ (by omega) (zt_Gs_next _ (h))) | exact zt_Gle (by omega) (zt_Gs_top _ (zt_G_read _ (zt_Gs_sp _ (zt_Gs_next _ (h))))) | exact zt_Gle (by omega) (zt_G_push _ _ _ (by omega) (zt_G_byteAt _ (zt_Gs_next _ (h)))) | exact zt_Gle (by omega) (zt_G_store _ _ _ (by omega) (zt_G_byteAt _ (zt_Gs_next _ (h)))) | exact zt_Gle (by omega) (zt_G_push _ _ _ (by omega) (zt_G_read _ (zt_G_pair _ (zt_Gs_next _ (h))))) | exact zt_Gle (by omega) (zt_G_push _ _ _ (by omega) (zt_G_read _ (zt_G_byteAt _ (zt_Gs_next _ (h)))))
def zt_word (u : Zts) (a1 a2 : Int32) : Zts :=
  if (zt_isWord a1) = 0 then (
    let u2 := zts_thrown u 1
    u2)
  else (
    let u3 := zts_thrown u 0
    let u4 := zts_words u3 (upd (ztg_words u3) a1.toNatClampNeg a2)
    u4)
set_option maxHeartbeats 4000000 in
set_option maxRecDepth 100000 in
theorem ztM_word (l : Launch) (k : Ztk) (Dk : ZtD k) (u : Zts) (a1 a2 : Int32) : Met l yX1_word (.code yX1_word cX1_word 3 none :: zwT) (zrm 1) (ZtB k [.ref (zta_this k), .int a1, .int a2] u) (ZtQ k none (zt_word u a1 a2)) 0 0 (ZtA k) := by
  refine ztE_in (by decide) rfl (Nat.le_of_ble_eq_true rfl) Dk ?_
  intro p e s m below meth c ls C hr hlk hP hl
  have hx := C.1.1
  have hb := C.1.2.1
  have hl : lv_has ls 3 [(0, .ref (zta_this k)), (1, .int a1), (2, .int a2)] := hl
  have hS : va_S (ZtA k) s.heap s.heap [] := va_S.rf
  refine lv_aload_n hx hb dX1_word_0 rfl (lv_at hl 0 rfl) ?_
  refine lv_iload_n hx hb dX1_word_1 rfl (lv_at hl 1 rfl) ?_
  refine ztK_isWord C hl.1 (by decide) (Nat.le_of_ble_eq_true rfl) dX1_word_2 ?_
  refine lv_if_eq (tgt := 12) hx hb dX1_word_5 (by decide) (fun c1 => ?_) (fun c1 => ?_)
  · refine lv_iconst (v := 1) hx hb dX1_word_12 (by decide) ?_
    refine ztP_thrown C hP hS dX1_word_13 (fun u2 H locs hu2 hP hS => ?_)
    refine lv_aload_n hx hb dX1_word_16 rfl (lv_at hl 0 rfl) ?_
    refine ztG_thrown C hP dX1_word_17 ?_
    refine lv_if_ne (tgt := 30) hx hb dX1_word_20 (by decide) (fun _ => ?_) (fun q => absurd (show (1 : Int32) = 0 by subst hu2; exact q) (by decide))
    exact zt_vret C hr hlk hP hS (by subst hu2; exact (if_pos c1).trans (rfl)) dX1_word_30
  · refine lv_iconst (v := 0) hx hb dX1_word_8 (by decide) ?_
    refine lv_goto (tgt := 13) hx hb dX1_word_9 (by decide) ?_
    refine ztP_thrown C hP hS dX1_word_13 (fun u3 H locs hu3 hP hS => ?_)
    refine lv_aload_n hx hb dX1_word_16 rfl (lv_at hl 0 rfl) ?_
    refine ztG_thrown C hP dX1_word_17 ?_
    refine lv_if_ne (tgt := 30) hx hb dX1_word_20 (by decide) (fun q => absurd (show ¬ ((0 : Int32) = 0) by subst hu3; exact q) (by decide)) (fun _ => ?_)
    refine lv_aload_n hx hb dX1_word_23 rfl (lv_at hl 0 rfl) ?_
    refine ztG_words C hP dX1_word_24 ?_
    refine lv_iload_n hx hb dX1_word_27 rfl (lv_at hl 1 rfl) ?_
    refine lv_iload_n hx hb dX1_word_28 rfl (lv_at hl 2 rfl) ?_
    refine ztS_words C hP hS (by first | with_reducible assumption | with_reducible exact zt_in (by with_reducible assumption) | with_reducible exact zt_inb (by with_reducible assumption) (by with_reducible assumption)) dX1_word_29 (fun u4 H locs hu4 hP hS => ?_)
    exact zt_vret C hr hlk hP hS (by subst hu3 hu4; exact (if_neg c1).trans (rfl)) dX1_word_30
def zt_boot (u : Zts) (a1 a2 a3 a4 : Int32) : Zts :=
  let u1 := zts_thrown u 0
  let u2 := zts_pc u1 a1
  let u3 := zts_sp u2 a2
  let u4 := zts_lv u3 a3
  let u5 := zts_cpp u4 a4
  if (zt_isWord (ztg_sp u5)) = 0 then (
    let u7 := zts_top u5 0
    let u8 := zts_state u7 0
    let u9 := zts_cycles u8 0
    let u10 := zts_done u9 0
    u10)
  else (
    let u11 := zts_top u5 (ztg_words u5 (ztg_sp u5).toNatClampNeg)
    let u12 := zts_state u11 0
    let u13 := zts_cycles u12 0
    let u14 := zts_done u13 0
    u14)
set_option maxHeartbeats 4000000 in
set_option maxRecDepth 100000 in
theorem ztM_boot (l : Launch) (k : Ztk) (Dk : ZtD k) (u : Zts) (a1 a2 a3 a4 : Int32) : Met l yX1_boot (.code yX1_boot cX1_boot 5 none :: zwT) (zrm 1) (ZtB k [.ref (zta_this k), .int a1, .int a2, .int a3, .int a4] u) (ZtQ k none (zt_boot u a1 a2 a3 a4)) 0 0 (ZtA k) := by
  refine ztE_in (by decide) rfl (Nat.le_of_ble_eq_true rfl) Dk ?_
  intro p e s m below meth c ls C hr hlk hP hl
  have hx := C.1.1
  have hb := C.1.2.1
  have hl : lv_has ls 5 [(0, .ref (zta_this k)), (1, .int a1), (2, .int a2), (3, .int a3), (4, .int a4)] := hl
  have hS : va_S (ZtA k) s.heap s.heap [] := va_S.rf
  refine lv_aload_n hx hb dX1_boot_0 rfl (lv_at hl 0 rfl) ?_
  refine lv_iconst (v := 0) hx hb dX1_boot_1 (by decide) ?_
  refine ztP_thrown C hP hS dX1_boot_2 (fun u1 H locs hu1 hP hS => ?_)
  refine lv_aload_n hx hb dX1_boot_5 rfl (lv_at hl 0 rfl) ?_
  refine lv_iload_n hx hb dX1_boot_6 rfl (lv_at hl 1 rfl) ?_
  refine ztP_pc C hP hS dX1_boot_7 (fun u2 H locs hu2 hP hS => ?_)
  refine lv_aload_n hx hb dX1_boot_10 rfl (lv_at hl 0 rfl) ?_
  refine lv_iload_n hx hb dX1_boot_11 rfl (lv_at hl 2 rfl) ?_
  refine ztP_sp C hP hS dX1_boot_12 (fun u3 H locs hu3 hP hS => ?_)
  refine lv_aload_n hx hb dX1_boot_15 rfl (lv_at hl 0 rfl) ?_
  refine lv_iload_n hx hb dX1_boot_16 rfl (lv_at hl 3 rfl) ?_
  refine ztP_lv C hP hS dX1_boot_17 (fun u4 H locs hu4 hP hS => ?_)
  refine lv_aload_n hx hb dX1_boot_20 rfl (lv_at hl 0 rfl) ?_
  refine lv_iload hx hb dX1_boot_21 (lv_at hl 4 rfl) ?_
  refine ztP_cpp C hP hS dX1_boot_23 (fun u5 H locs hu5 hP hS => ?_)
  refine lv_aload_n hx hb dX1_boot_26 rfl (lv_at hl 0 rfl) ?_
  refine lv_aload_n hx hb dX1_boot_27 rfl (lv_at hl 0 rfl) ?_
  refine ztG_sp C hP dX1_boot_28 ?_
  refine ztK_isWord C hl.1 (by decide) (Nat.le_of_ble_eq_true rfl) dX1_boot_31 ?_
  refine lv_if_eq (tgt := 49) hx hb dX1_boot_34 (by decide) (fun c6 => ?_) (fun c6 => ?_)
  · refine lv_iconst (v := 0) hx hb dX1_boot_49 (by decide) ?_
    refine ztP_top C hP hS dX1_boot_50 (fun u7 H locs hu7 hP hS => ?_)
    refine lv_aload_n hx hb dX1_boot_53 rfl (lv_at hl 0 rfl) ?_
    refine lv_iconst (v := 0) hx hb dX1_boot_54 (by decide) ?_
    refine ztP_state C hP hS dX1_boot_55 (fun u8 H locs hu8 hP hS => ?_)
    refine lv_aload_n hx hb dX1_boot_58 rfl (lv_at hl 0 rfl) ?_
    refine lv_iconst (v := 0) hx hb dX1_boot_59 (by decide) ?_
    refine ztP_cycles C hP hS dX1_boot_60 (fun u9 H locs hu9 hP hS => ?_)
    refine lv_aload_n hx hb dX1_boot_63 rfl (lv_at hl 0 rfl) ?_
    refine lv_iconst (v := 0) hx hb dX1_boot_64 (by decide) ?_
    refine ztP_done C hP hS dX1_boot_65 (fun u10 H locs hu10 hP hS => ?_)
    exact zt_vret C hr hlk hP hS (by subst hu1 hu2 hu3 hu4 hu5 hu7 hu8 hu9 hu10; exact (if_pos c6).trans (rfl)) dX1_boot_68
  · refine lv_aload_n hx hb dX1_boot_37 rfl (lv_at hl 0 rfl) ?_
    refine ztG_words C hP dX1_boot_38 ?_
    refine lv_aload_n hx hb dX1_boot_41 rfl (lv_at hl 0 rfl) ?_
    refine ztG_sp C hP dX1_boot_42 ?_
    refine ztL_words C hP (by first | with_reducible assumption | with_reducible exact zt_in (by with_reducible assumption) | with_reducible exact zt_inb (by with_reducible assumption) (by with_reducible assumption)) dX1_boot_45 ?_
    refine lv_goto (tgt := 50) hx hb dX1_boot_46 (by decide) ?_
    refine ztP_top C hP hS dX1_boot_50 (fun u11 H locs hu11 hP hS => ?_)
    refine lv_aload_n hx hb dX1_boot_53 rfl (lv_at hl 0 rfl) ?_
    refine lv_iconst (v := 0) hx hb dX1_boot_54 (by decide) ?_
    refine ztP_state C hP hS dX1_boot_55 (fun u12 H locs hu12 hP hS => ?_)
    refine lv_aload_n hx hb dX1_boot_58 rfl (lv_at hl 0 rfl) ?_
    refine lv_iconst (v := 0) hx hb dX1_boot_59 (by decide) ?_
    refine ztP_cycles C hP hS dX1_boot_60 (fun u13 H locs hu13 hP hS => ?_)
    refine lv_aload_n hx hb dX1_boot_63 rfl (lv_at hl 0 rfl) ?_
    refine lv_iconst (v := 0) hx hb dX1_boot_64 (by decide) ?_
    refine ztP_done C hP hS dX1_boot_65 (fun u14 H locs hu14 hP hS => ?_)
    exact zt_vret C hr hlk hP hS (by subst hu1 hu2 hu3 hu4 hu5 hu11 hu12 hu13 hu14; exact (if_neg c6).trans (rfl)) dX1_boot_68
def zt_look (u : Zts) (a1 : Int32) : Int32 × Zts :=
  if (zt_isWord a1) = 0 then (
    let u2 := zts_thrown u 1
    (0, u2))
  else (
    let u3 := zts_thrown u 0
    (ztg_words u3 a1.toNatClampNeg, u3))
set_option maxHeartbeats 4000000 in
set_option maxRecDepth 100000 in
theorem ztM_look (l : Launch) (k : Ztk) (Dk : ZtD k) (u : Zts) (a1 : Int32) : Met l yX1_look (.code yX1_look cX1_look 2 (some .int) :: zwT) (zrm 1) (ZtB k [.ref (zta_this k), .int a1] u) (ZtQ k (some (.int (zt_look u a1).1)) (zt_look u a1).2) 0 0 (ZtA k) := by
  refine ztE_in (by decide) rfl (Nat.le_of_ble_eq_true rfl) Dk ?_
  intro p e s m below meth c ls C hr hlk hP hl
  have hx := C.1.1
  have hb := C.1.2.1
  have hl : lv_has ls 2 [(0, .ref (zta_this k)), (1, .int a1)] := hl
  have hS : va_S (ZtA k) s.heap s.heap [] := va_S.rf
  refine lv_aload_n hx hb dX1_look_0 rfl (lv_at hl 0 rfl) ?_
  refine lv_iload_n hx hb dX1_look_1 rfl (lv_at hl 1 rfl) ?_
  refine ztK_isWord C hl.1 (by decide) (Nat.le_of_ble_eq_true rfl) dX1_look_2 ?_
  refine lv_if_eq (tgt := 12) hx hb dX1_look_5 (by decide) (fun c1 => ?_) (fun c1 => ?_)
  · refine lv_iconst (v := 1) hx hb dX1_look_12 (by decide) ?_
    refine ztP_thrown C hP hS dX1_look_13 (fun u2 H locs hu2 hP hS => ?_)
    refine lv_aload_n hx hb dX1_look_16 rfl (lv_at hl 0 rfl) ?_
    refine ztG_thrown C hP dX1_look_17 ?_
    refine lv_if_ne (tgt := 32) hx hb dX1_look_20 (by decide) (fun _ => ?_) (fun q => absurd (show (1 : Int32) = 0 by subst hu2; exact q) (by decide))
    refine lv_iconst (v := 0) hx hb dX1_look_32 (by decide) ?_
    exact zt_iret C hr hlk hP hS (by subst hu2; exact (if_pos c1).trans (rfl)) dX1_look_33
  · refine lv_iconst (v := 0) hx hb dX1_look_8 (by decide) ?_
    refine lv_goto (tgt := 13) hx hb dX1_look_9 (by decide) ?_
    refine ztP_thrown C hP hS dX1_look_13 (fun u3 H locs hu3 hP hS => ?_)
    refine lv_aload_n hx hb dX1_look_16 rfl (lv_at hl 0 rfl) ?_
    refine ztG_thrown C hP dX1_look_17 ?_
    refine lv_if_ne (tgt := 32) hx hb dX1_look_20 (by decide) (fun q => absurd (show ¬ ((0 : Int32) = 0) by subst hu3; exact q) (by decide)) (fun _ => ?_)
    refine lv_aload_n hx hb dX1_look_23 rfl (lv_at hl 0 rfl) ?_
    refine ztG_words C hP dX1_look_24 ?_
    refine lv_iload_n hx hb dX1_look_27 rfl (lv_at hl 1 rfl) ?_
    refine ztL_words C hP (by first | with_reducible assumption | with_reducible exact zt_in (by with_reducible assumption) | with_reducible exact zt_inb (by with_reducible assumption) (by with_reducible assumption)) dX1_look_28 ?_
    refine lv_goto (tgt := 33) hx hb dX1_look_29 (by decide) ?_
    exact zt_iret C hr hlk hP hS (by subst hu3; exact (if_neg c1).trans (rfl)) dX1_look_33
def zt_register (u : Zts) (a1 : Int32) : Int32 × Zts :=
  if a1 < 0 then (
    let u2 := zts_thrown u 1
    if a1 = 0 then (
      (ztg_pc u2, u2))
    else (
      if a1 = 1 then (
        (ztg_sp u2, u2))
      else (
        if a1 = 2 then (
          (ztg_lv u2, u2))
        else (
          if a1 = 3 then (
            (ztg_cpp u2, u2))
          else (
            if a1 = 4 then (
              (ztg_top u2, u2))
            else (
              if a1 = 5 then (
                (ztg_state u2, u2))
              else (
                if a1 = 6 then (
                  (ztg_cycles u2, u2))
                else (
                  if a1 = 7 then (
                    (ztg_done u2, u2))
                  else (
                    (0, u2))))))))))
  else (
    if a1 ≤ 7 then (
      let u12 := zts_thrown u 0
      if a1 = 0 then (
        (ztg_pc u12, u12))
      else (
        if a1 = 1 then (
          (ztg_sp u12, u12))
        else (
          if a1 = 2 then (
            (ztg_lv u12, u12))
          else (
            if a1 = 3 then (
              (ztg_cpp u12, u12))
            else (
              if a1 = 4 then (
                (ztg_top u12, u12))
              else (
                if a1 = 5 then (
                  (ztg_state u12, u12))
                else (
                  if a1 = 6 then (
                    (ztg_cycles u12, u12))
                  else (
                    if a1 = 7 then (
                      (ztg_done u12, u12))
                    else (
                      (0, u12))))))))))
    else (
      let u21 := zts_thrown u 1
      if a1 = 0 then (
        (ztg_pc u21, u21))
      else (
        if a1 = 1 then (
          (ztg_sp u21, u21))
        else (
          if a1 = 2 then (
            (ztg_lv u21, u21))
          else (
            if a1 = 3 then (
              (ztg_cpp u21, u21))
            else (
              if a1 = 4 then (
                (ztg_top u21, u21))
              else (
                if a1 = 5 then (
                  (ztg_state u21, u21))
                else (
                  if a1 = 6 then (
                    (ztg_cycles u21, u21))
                  else (
                    if a1 = 7 then (
                      (ztg_done u21, u21))
                    else (
                      (0, u21)))))))))))
set_option maxHeartbeats 4000000 in
set_option maxRecDepth 100000 in
theorem ztM_register (l : Launch) (k : Ztk) (Dk : ZtD k) (u : Zts) (a1 : Int32) : Met l yX1_register (.code yX1_register cX1_register 2 (some .int) :: zwT) (zrm 0) (ZtB k [.ref (zta_this k), .int a1] u) (ZtQ k (some (.int (zt_register u a1).1)) (zt_register u a1).2) 0 0 (ZtA k) := by
  refine ztE_in (by decide) rfl (Nat.le_of_ble_eq_true rfl) Dk ?_
  intro p e s m below meth c ls C hr hlk hP hl
  have hx := C.1.1
  have hb := C.1.2.1
  have hl : lv_has ls 2 [(0, .ref (zta_this k)), (1, .int a1)] := hl
  have hS : va_S (ZtA k) s.heap s.heap [] := va_S.rf
  refine lv_aload_n hx hb dX1_register_0 rfl (lv_at hl 0 rfl) ?_
  refine lv_iload_n hx hb dX1_register_1 rfl (lv_at hl 1 rfl) ?_
  refine lv_if_lt (tgt := 11) hx hb dX1_register_2 (by decide) (fun c1 => ?_) (fun c1 => ?_)
  · refine lv_iconst (v := 1) hx hb dX1_register_11 (by decide) ?_
    refine lv_goto (tgt := 16) hx hb dX1_register_12 (by decide) ?_
    refine ztP_thrown C hP hS dX1_register_16 (fun u2 H locs hu2 hP hS => ?_)
    refine lv_iload_n hx hb dX1_register_19 rfl (lv_at hl 1 rfl) ?_
    by_cases c3 : a1 = 0
    · refine lv_tableIn (off := 48) (tgt := 68) hx hb dX1_register_20 (by rw [c3]; decide) (by rw [c3]; decide) (by rw [c3]; decide) (by decide) ?_
      refine lv_aload_n hx hb dX1_register_68 rfl (lv_at hl 0 rfl) ?_
      refine ztG_pc C hP dX1_register_69 ?_
      exact zt_iret C hr hlk hP hS (by subst hu2; exact (if_pos c1).trans ((if_pos c3).trans (rfl))) dX1_register_72
    · skip
      by_cases c4 : a1 = 1
      · refine lv_tableIn (off := 53) (tgt := 73) hx hb dX1_register_20 (by rw [c4]; decide) (by rw [c4]; decide) (by rw [c4]; decide) (by decide) ?_
        refine lv_aload_n hx hb dX1_register_73 rfl (lv_at hl 0 rfl) ?_
        refine ztG_sp C hP dX1_register_74 ?_
        exact zt_iret C hr hlk hP hS (by subst hu2; exact (if_pos c1).trans ((if_neg c3).trans ((if_pos c4).trans (rfl)))) dX1_register_77
      · skip
        by_cases c5 : a1 = 2
        · refine lv_tableIn (off := 58) (tgt := 78) hx hb dX1_register_20 (by rw [c5]; decide) (by rw [c5]; decide) (by rw [c5]; decide) (by decide) ?_
          refine lv_aload_n hx hb dX1_register_78 rfl (lv_at hl 0 rfl) ?_
          refine ztG_lv C hP dX1_register_79 ?_
          exact zt_iret C hr hlk hP hS (by subst hu2; exact (if_pos c1).trans ((if_neg c3).trans ((if_neg c4).trans ((if_pos c5).trans (rfl))))) dX1_register_82
        · skip
          by_cases c6 : a1 = 3
          · refine lv_tableIn (off := 63) (tgt := 83) hx hb dX1_register_20 (by rw [c6]; decide) (by rw [c6]; decide) (by rw [c6]; decide) (by decide) ?_
            refine lv_aload_n hx hb dX1_register_83 rfl (lv_at hl 0 rfl) ?_
            refine ztG_cpp C hP dX1_register_84 ?_
            exact zt_iret C hr hlk hP hS (by subst hu2; exact (if_pos c1).trans ((if_neg c3).trans ((if_neg c4).trans ((if_neg c5).trans ((if_pos c6).trans (rfl)))))) dX1_register_87
          · skip
            by_cases c7 : a1 = 4
            · refine lv_tableIn (off := 68) (tgt := 88) hx hb dX1_register_20 (by rw [c7]; decide) (by rw [c7]; decide) (by rw [c7]; decide) (by decide) ?_
              refine lv_aload_n hx hb dX1_register_88 rfl (lv_at hl 0 rfl) ?_
              refine ztG_top C hP dX1_register_89 ?_
              exact zt_iret C hr hlk hP hS (by subst hu2; exact (if_pos c1).trans ((if_neg c3).trans ((if_neg c4).trans ((if_neg c5).trans ((if_neg c6).trans ((if_pos c7).trans (rfl))))))) dX1_register_92
            · skip
              by_cases c8 : a1 = 5
              · refine lv_tableIn (off := 73) (tgt := 93) hx hb dX1_register_20 (by rw [c8]; decide) (by rw [c8]; decide) (by rw [c8]; decide) (by decide) ?_
                refine lv_aload_n hx hb dX1_register_93 rfl (lv_at hl 0 rfl) ?_
                refine ztG_state C hP dX1_register_94 ?_
                exact zt_iret C hr hlk hP hS (by subst hu2; exact (if_pos c1).trans ((if_neg c3).trans ((if_neg c4).trans ((if_neg c5).trans ((if_neg c6).trans ((if_neg c7).trans ((if_pos c8).trans (rfl)))))))) dX1_register_97
              · skip
                by_cases c9 : a1 = 6
                · refine lv_tableIn (off := 78) (tgt := 98) hx hb dX1_register_20 (by rw [c9]; decide) (by rw [c9]; decide) (by rw [c9]; decide) (by decide) ?_
                  refine lv_aload_n hx hb dX1_register_98 rfl (lv_at hl 0 rfl) ?_
                  refine ztG_cycles C hP dX1_register_99 ?_
                  exact zt_iret C hr hlk hP hS (by subst hu2; exact (if_pos c1).trans ((if_neg c3).trans ((if_neg c4).trans ((if_neg c5).trans ((if_neg c6).trans ((if_neg c7).trans ((if_neg c8).trans ((if_pos c9).trans (rfl))))))))) dX1_register_102
                · skip
                  by_cases c10 : a1 = 7
                  · refine lv_tableIn (off := 83) (tgt := 103) hx hb dX1_register_20 (by rw [c10]; decide) (by rw [c10]; decide) (by rw [c10]; decide) (by decide) ?_
                    refine lv_aload_n hx hb dX1_register_103 rfl (lv_at hl 0 rfl) ?_
                    refine ztG_done C hP dX1_register_104 ?_
                    exact zt_iret C hr hlk hP hS (by subst hu2; exact (if_pos c1).trans ((if_neg c3).trans ((if_neg c4).trans ((if_neg c5).trans ((if_neg c6).trans ((if_neg c7).trans ((if_neg c8).trans ((if_neg c9).trans ((if_pos c10).trans (rfl)))))))))) dX1_register_107
                  · skip
                    refine lv_tableOut (tgt := 108) hx hb dX1_register_20 (by have qc3 := lv_neT c3 (show (0 : Int32).toInt = 0 from rfl); have qc4 := lv_neT c4 (show (1 : Int32).toInt = 1 from rfl); have qc5 := lv_neT c5 (show (2 : Int32).toInt = 2 from rfl); have qc6 := lv_neT c6 (show (3 : Int32).toInt = 3 from rfl); have qc7 := lv_neT c7 (show (4 : Int32).toInt = 4 from rfl); have qc8 := lv_neT c8 (show (5 : Int32).toInt = 5 from rfl); have qc9 := lv_neT c9 (show (6 : Int32).toInt = 6 from rfl); have qc10 := lv_neT c10 (show (7 : Int32).toInt = 7 from rfl); omega) (by decide) ?_
                    refine lv_iconst (v := 0) hx hb dX1_register_108 (by decide) ?_
                    exact zt_iret C hr hlk hP hS (by subst hu2; exact (if_pos c1).trans ((if_neg c3).trans ((if_neg c4).trans ((if_neg c5).trans ((if_neg c6).trans ((if_neg c7).trans ((if_neg c8).trans ((if_neg c9).trans ((if_neg c10).trans (rfl)))))))))) dX1_register_109
  · refine lv_iload_n hx hb dX1_register_5 rfl (lv_at hl 1 rfl) ?_
    refine lv_bipush (v := 7) hx hb dX1_register_6 (by decide) ?_
    refine lv_icmp_le (tgt := 15) hx hb dX1_register_8 (by decide) (fun c11 => ?_) (fun c11 => ?_)
    · refine lv_iconst (v := 0) hx hb dX1_register_15 (by decide) ?_
      refine ztP_thrown C hP hS dX1_register_16 (fun u12 H locs hu12 hP hS => ?_)
      refine lv_iload_n hx hb dX1_register_19 rfl (lv_at hl 1 rfl) ?_
      by_cases c13 : a1 = 0
      · refine lv_tableIn (off := 48) (tgt := 68) hx hb dX1_register_20 (by rw [c13]; decide) (by rw [c13]; decide) (by rw [c13]; decide) (by decide) ?_
        refine lv_aload_n hx hb dX1_register_68 rfl (lv_at hl 0 rfl) ?_
        refine ztG_pc C hP dX1_register_69 ?_
        exact zt_iret C hr hlk hP hS (by subst hu12; exact (if_neg c1).trans ((if_pos c11).trans ((if_pos c13).trans (rfl)))) dX1_register_72
      · skip
        by_cases c14 : a1 = 1
        · refine lv_tableIn (off := 53) (tgt := 73) hx hb dX1_register_20 (by rw [c14]; decide) (by rw [c14]; decide) (by rw [c14]; decide) (by decide) ?_
          refine lv_aload_n hx hb dX1_register_73 rfl (lv_at hl 0 rfl) ?_
          refine ztG_sp C hP dX1_register_74 ?_
          exact zt_iret C hr hlk hP hS (by subst hu12; exact (if_neg c1).trans ((if_pos c11).trans ((if_neg c13).trans ((if_pos c14).trans (rfl))))) dX1_register_77
        · skip
          by_cases c15 : a1 = 2
          · refine lv_tableIn (off := 58) (tgt := 78) hx hb dX1_register_20 (by rw [c15]; decide) (by rw [c15]; decide) (by rw [c15]; decide) (by decide) ?_
            refine lv_aload_n hx hb dX1_register_78 rfl (lv_at hl 0 rfl) ?_
            refine ztG_lv C hP dX1_register_79 ?_
            exact zt_iret C hr hlk hP hS (by subst hu12; exact (if_neg c1).trans ((if_pos c11).trans ((if_neg c13).trans ((if_neg c14).trans ((if_pos c15).trans (rfl)))))) dX1_register_82
          · skip
            by_cases c16 : a1 = 3
            · refine lv_tableIn (off := 63) (tgt := 83) hx hb dX1_register_20 (by rw [c16]; decide) (by rw [c16]; decide) (by rw [c16]; decide) (by decide) ?_
              refine lv_aload_n hx hb dX1_register_83 rfl (lv_at hl 0 rfl) ?_
              refine ztG_cpp C hP dX1_register_84 ?_
              exact zt_iret C hr hlk hP hS (by subst hu12; exact (if_neg c1).trans ((if_pos c11).trans ((if_neg c13).trans ((if_neg c14).trans ((if_neg c15).trans ((if_pos c16).trans (rfl))))))) dX1_register_87
            · skip
              by_cases c17 : a1 = 4
              · refine lv_tableIn (off := 68) (tgt := 88) hx hb dX1_register_20 (by rw [c17]; decide) (by rw [c17]; decide) (by rw [c17]; decide) (by decide) ?_
                refine lv_aload_n hx hb dX1_register_88 rfl (lv_at hl 0 rfl) ?_
                refine ztG_top C hP dX1_register_89 ?_
                exact zt_iret C hr hlk hP hS (by subst hu12; exact (if_neg c1).trans ((if_pos c11).trans ((if_neg c13).trans ((if_neg c14).trans ((if_neg c15).trans ((if_neg c16).trans ((if_pos c17).trans (rfl)))))))) dX1_register_92
              · skip
                by_cases c18 : a1 = 5
                · refine lv_tableIn (off := 73) (tgt := 93) hx hb dX1_register_20 (by rw [c18]; decide) (by rw [c18]; decide) (by rw [c18]; decide) (by decide) ?_
                  refine lv_aload_n hx hb dX1_register_93 rfl (lv_at hl 0 rfl) ?_
                  refine ztG_state C hP dX1_register_94 ?_
                  exact zt_iret C hr hlk hP hS (by subst hu12; exact (if_neg c1).trans ((if_pos c11).trans ((if_neg c13).trans ((if_neg c14).trans ((if_neg c15).trans ((if_neg c16).trans ((if_neg c17).trans ((if_pos c18).trans (rfl))))))))) dX1_register_97
                · skip
                  by_cases c19 : a1 = 6
                  · refine lv_tableIn (off := 78) (tgt := 98) hx hb dX1_register_20 (by rw [c19]; decide) (by rw [c19]; decide) (by rw [c19]; decide) (by decide) ?_
                    refine lv_aload_n hx hb dX1_register_98 rfl (lv_at hl 0 rfl) ?_
                    refine ztG_cycles C hP dX1_register_99 ?_
                    exact zt_iret C hr hlk hP hS (by subst hu12; exact (if_neg c1).trans ((if_pos c11).trans ((if_neg c13).trans ((if_neg c14).trans ((if_neg c15).trans ((if_neg c16).trans ((if_neg c17).trans ((if_neg c18).trans ((if_pos c19).trans (rfl)))))))))) dX1_register_102
                  · skip
                    by_cases c20 : a1 = 7
                    · refine lv_tableIn (off := 83) (tgt := 103) hx hb dX1_register_20 (by rw [c20]; decide) (by rw [c20]; decide) (by rw [c20]; decide) (by decide) ?_
                      refine lv_aload_n hx hb dX1_register_103 rfl (lv_at hl 0 rfl) ?_
                      refine ztG_done C hP dX1_register_104 ?_
                      exact zt_iret C hr hlk hP hS (by subst hu12; exact (if_neg c1).trans ((if_pos c11).trans ((if_neg c13).trans ((if_neg c14).trans ((if_neg c15).trans ((if_neg c16).trans ((if_neg c17).trans ((if_neg c18).trans ((if_neg c19).trans ((if_pos c20).trans (rfl))))))))))) dX1_register_107
                    · skip
                      refine lv_tableOut (tgt := 108) hx hb dX1_register_20 (by have qc13 := lv_neT c13 (show (0 : Int32).toInt = 0 from rfl); have qc14 := lv_neT c14 (show (1 : Int32).toInt = 1 from rfl); have qc15 := lv_neT c15 (show (2 : Int32).toInt = 2 from rfl); have qc16 := lv_neT c16 (show (3 : Int32).toInt = 3 from rfl); have qc17 := lv_neT c17 (show (4 : Int32).toInt = 4 from rfl); have qc18 := lv_neT c18 (show (5 : Int32).toInt = 5 from rfl); have qc19 := lv_neT c19 (show (6 : Int32).toInt = 6 from rfl); have qc20 := lv_neT c20 (show (7 : Int32).toInt = 7 from rfl); omega) (by decide) ?_
                      refine lv_iconst (v := 0) hx hb dX1_register_108 (by decide) ?_
                      exact zt_iret C hr hlk hP hS (by subst hu12; exact (if_neg c1).trans ((if_pos c11).trans ((if_neg c13).trans ((if_neg c14).trans ((if_neg c15).trans ((if_neg c16).trans ((if_neg c17).trans ((if_neg c18).trans ((if_neg c19).trans ((if_neg c20).trans (rfl))))))))))) dX1_register_109
    · refine lv_iconst (v := 1) hx hb dX1_register_11 (by decide) ?_
      refine lv_goto (tgt := 16) hx hb dX1_register_12 (by decide) ?_
      refine ztP_thrown C hP hS dX1_register_16 (fun u21 H locs hu21 hP hS => ?_)
      refine lv_iload_n hx hb dX1_register_19 rfl (lv_at hl 1 rfl) ?_
      by_cases c22 : a1 = 0
      · refine lv_tableIn (off := 48) (tgt := 68) hx hb dX1_register_20 (by rw [c22]; decide) (by rw [c22]; decide) (by rw [c22]; decide) (by decide) ?_
        refine lv_aload_n hx hb dX1_register_68 rfl (lv_at hl 0 rfl) ?_
        refine ztG_pc C hP dX1_register_69 ?_
        exact zt_iret C hr hlk hP hS (by subst hu21; exact (if_neg c1).trans ((if_neg c11).trans ((if_pos c22).trans (rfl)))) dX1_register_72
      · skip
        by_cases c23 : a1 = 1
        · refine lv_tableIn (off := 53) (tgt := 73) hx hb dX1_register_20 (by rw [c23]; decide) (by rw [c23]; decide) (by rw [c23]; decide) (by decide) ?_
          refine lv_aload_n hx hb dX1_register_73 rfl (lv_at hl 0 rfl) ?_
          refine ztG_sp C hP dX1_register_74 ?_
          exact zt_iret C hr hlk hP hS (by subst hu21; exact (if_neg c1).trans ((if_neg c11).trans ((if_neg c22).trans ((if_pos c23).trans (rfl))))) dX1_register_77
        · skip
          by_cases c24 : a1 = 2
          · refine lv_tableIn (off := 58) (tgt := 78) hx hb dX1_register_20 (by rw [c24]; decide) (by rw [c24]; decide) (by rw [c24]; decide) (by decide) ?_
            refine lv_aload_n hx hb dX1_register_78 rfl (lv_at hl 0 rfl) ?_
            refine ztG_lv C hP dX1_register_79 ?_
            exact zt_iret C hr hlk hP hS (by subst hu21; exact (if_neg c1).trans ((if_neg c11).trans ((if_neg c22).trans ((if_neg c23).trans ((if_pos c24).trans (rfl)))))) dX1_register_82
          · skip
            by_cases c25 : a1 = 3
            · refine lv_tableIn (off := 63) (tgt := 83) hx hb dX1_register_20 (by rw [c25]; decide) (by rw [c25]; decide) (by rw [c25]; decide) (by decide) ?_
              refine lv_aload_n hx hb dX1_register_83 rfl (lv_at hl 0 rfl) ?_
              refine ztG_cpp C hP dX1_register_84 ?_
              exact zt_iret C hr hlk hP hS (by subst hu21; exact (if_neg c1).trans ((if_neg c11).trans ((if_neg c22).trans ((if_neg c23).trans ((if_neg c24).trans ((if_pos c25).trans (rfl))))))) dX1_register_87
            · skip
              by_cases c26 : a1 = 4
              · refine lv_tableIn (off := 68) (tgt := 88) hx hb dX1_register_20 (by rw [c26]; decide) (by rw [c26]; decide) (by rw [c26]; decide) (by decide) ?_
                refine lv_aload_n hx hb dX1_register_88 rfl (lv_at hl 0 rfl) ?_
                refine ztG_top C hP dX1_register_89 ?_
                exact zt_iret C hr hlk hP hS (by subst hu21; exact (if_neg c1).trans ((if_neg c11).trans ((if_neg c22).trans ((if_neg c23).trans ((if_neg c24).trans ((if_neg c25).trans ((if_pos c26).trans (rfl)))))))) dX1_register_92
              · skip
                by_cases c27 : a1 = 5
                · refine lv_tableIn (off := 73) (tgt := 93) hx hb dX1_register_20 (by rw [c27]; decide) (by rw [c27]; decide) (by rw [c27]; decide) (by decide) ?_
                  refine lv_aload_n hx hb dX1_register_93 rfl (lv_at hl 0 rfl) ?_
                  refine ztG_state C hP dX1_register_94 ?_
                  exact zt_iret C hr hlk hP hS (by subst hu21; exact (if_neg c1).trans ((if_neg c11).trans ((if_neg c22).trans ((if_neg c23).trans ((if_neg c24).trans ((if_neg c25).trans ((if_neg c26).trans ((if_pos c27).trans (rfl))))))))) dX1_register_97
                · skip
                  by_cases c28 : a1 = 6
                  · refine lv_tableIn (off := 78) (tgt := 98) hx hb dX1_register_20 (by rw [c28]; decide) (by rw [c28]; decide) (by rw [c28]; decide) (by decide) ?_
                    refine lv_aload_n hx hb dX1_register_98 rfl (lv_at hl 0 rfl) ?_
                    refine ztG_cycles C hP dX1_register_99 ?_
                    exact zt_iret C hr hlk hP hS (by subst hu21; exact (if_neg c1).trans ((if_neg c11).trans ((if_neg c22).trans ((if_neg c23).trans ((if_neg c24).trans ((if_neg c25).trans ((if_neg c26).trans ((if_neg c27).trans ((if_pos c28).trans (rfl)))))))))) dX1_register_102
                  · skip
                    by_cases c29 : a1 = 7
                    · refine lv_tableIn (off := 83) (tgt := 103) hx hb dX1_register_20 (by rw [c29]; decide) (by rw [c29]; decide) (by rw [c29]; decide) (by decide) ?_
                      refine lv_aload_n hx hb dX1_register_103 rfl (lv_at hl 0 rfl) ?_
                      refine ztG_done C hP dX1_register_104 ?_
                      exact zt_iret C hr hlk hP hS (by subst hu21; exact (if_neg c1).trans ((if_neg c11).trans ((if_neg c22).trans ((if_neg c23).trans ((if_neg c24).trans ((if_neg c25).trans ((if_neg c26).trans ((if_neg c27).trans ((if_neg c28).trans ((if_pos c29).trans (rfl))))))))))) dX1_register_107
                    · skip
                      refine lv_tableOut (tgt := 108) hx hb dX1_register_20 (by have qc22 := lv_neT c22 (show (0 : Int32).toInt = 0 from rfl); have qc23 := lv_neT c23 (show (1 : Int32).toInt = 1 from rfl); have qc24 := lv_neT c24 (show (2 : Int32).toInt = 2 from rfl); have qc25 := lv_neT c25 (show (3 : Int32).toInt = 3 from rfl); have qc26 := lv_neT c26 (show (4 : Int32).toInt = 4 from rfl); have qc27 := lv_neT c27 (show (5 : Int32).toInt = 5 from rfl); have qc28 := lv_neT c28 (show (6 : Int32).toInt = 6 from rfl); have qc29 := lv_neT c29 (show (7 : Int32).toInt = 7 from rfl); omega) (by decide) ?_
                      refine lv_iconst (v := 0) hx hb dX1_register_108 (by decide) ?_
                      exact zt_iret C hr hlk hP hS (by subst hu21; exact (if_neg c1).trans ((if_neg c11).trans ((if_neg c22).trans ((if_neg c23).trans ((if_neg c24).trans ((if_neg c25).trans ((if_neg c26).trans ((if_neg c27).trans ((if_neg c28).trans ((if_neg c29).trans (rfl))))))))))) dX1_register_109
def zt_thrown (u : Zts) : Int32 :=
  ztg_thrown u
set_option maxHeartbeats 4000000 in
set_option maxRecDepth 100000 in
theorem ztM_thrown (l : Launch) (k : Ztk) (Dk : ZtD k) (u : Zts) : Met l yX1_thrown (.code yX1_thrown cX1_thrown 1 (some .int) :: zwT) (zrm 0) (ZtB k [.ref (zta_this k)] u) (QcRead (zt_thrown u )) 0 0 (fun _ => False) := by
  refine ztE_inR (by decide) rfl (Nat.le_of_ble_eq_true rfl) Dk ?_
  intro p e s m below meth c ls C hr hlk hP hl
  have hx := C.1.1
  have hb := C.1.2.1
  have hl : lv_has ls 1 [(0, .ref (zta_this k))] := hl
  refine lv_aload_n hx hb dX1_thrown_0 rfl (lv_at hl 0 rfl) ?_
  refine ztG_thrown C hP dX1_thrown_1 ?_
  exact zt_rret C hr rfl hlk (by exact rfl) dX1_thrown_4

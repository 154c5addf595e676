def zt_perform (u : Zts) (a1 : Int32) : Int32 × Zts :=
  let u1 := zts_next u ((ztg_pc u) + 1)
  if a1 = 0 then (
    (2, u1))
  else (
    if a1 = 16 then (
      let r5 := (zt_byteAt u1 ((ztg_pc u1) + 1)).1
      let u4 := (zt_byteAt u1 ((ztg_pc u1) + 1)).2
      let r7 := (zt_push u4 (zt_signed r5 8) 2 4).1
      let u6 := (zt_push u4 (zt_signed r5 8) 2 4).2
      (r7, u6))
    else (
      if a1 = 19 then (
        let r10 := (zt_pair u1 ((ztg_pc u1) + 1)).1
        let u9 := (zt_pair u1 ((ztg_pc u1) + 1)).2
        let r12 := (zt_read u9 ((ztg_cpp u1) + r10)).1
        let u11 := (zt_read u9 ((ztg_cpp u1) + r10)).2
        let r14 := (zt_push u11 r12 3 8).1
        let u13 := (zt_push u11 r12 3 8).2
        (r14, u13))
      else (
        if a1 = 21 then (
          let r17 := (zt_byteAt u1 ((ztg_pc u1) + 1)).1
          let u16 := (zt_byteAt u1 ((ztg_pc u1) + 1)).2
          let r19 := (zt_read u16 ((ztg_lv u1) + r17)).1
          let u18 := (zt_read u16 ((ztg_lv u1) + r17)).2
          let r21 := (zt_push u18 r19 2 6).1
          let u20 := (zt_push u18 r19 2 6).2
          (r21, u20))
        else (
          if a1 = 54 then (
            let r24 := (zt_byteAt u1 ((ztg_pc u1) + 1)).1
            let u23 := (zt_byteAt u1 ((ztg_pc u1) + 1)).2
            let r26 := (zt_store u23 ((ztg_lv u1) + r24) 2 7).1
            let u25 := (zt_store u23 ((ztg_lv u1) + r24) 2 7).2
            (r26, u25))
          else (
            if a1 = 87 then (
              let u28 := zts_sp u1 ((ztg_sp u1) - 1)
              let r30 := (zt_read u28 (ztg_sp u28)).1
              let u29 := (zt_read u28 (ztg_sp u28)).2
              let u31 := zts_top u29 r30
              (4, u31))
            else (
              if a1 = 89 then (
                let r34 := (zt_push u1 (ztg_top u1) 1 3).1
                let u33 := (zt_push u1 (ztg_top u1) 1 3).2
                (r34, u33))
              else (
                if a1 = 95 then (
                  let r37 := (zt_swap u1).1
                  let u36 := (zt_swap u1).2
                  (r37, u36))
                else (
                  if a1 = 96 then (
                    let r40 := (zt_reckon u1 a1).1
                    let u39 := (zt_reckon u1 a1).2
                    (r40, u39))
                  else (
                    if a1 = 100 then (
                      let r43 := (zt_reckon u1 a1).1
                      let u42 := (zt_reckon u1 a1).2
                      (r43, u42))
                    else (
                      if a1 = 126 then (
                        let r46 := (zt_reckon u1 a1).1
                        let u45 := (zt_reckon u1 a1).2
                        (r46, u45))
                      else (
                        if a1 = 128 then (
                          let r49 := (zt_reckon u1 a1).1
                          let u48 := (zt_reckon u1 a1).2
                          (r49, u48))
                        else (
                          if a1 = 132 then (
                            let r52 := (zt_increase u1).1
                            let u51 := (zt_increase u1).2
                            (r52, u51))
                          else (
                            if a1 = 153 then (
                              let r55 := (zt_ifs u1 a1).1
                              let u54 := (zt_ifs u1 a1).2
                              (r55, u54))
                            else (
                              if a1 = 155 then (
                                let r58 := (zt_ifs u1 a1).1
                                let u57 := (zt_ifs u1 a1).2
                                (r58, u57))
                              else (
                                if a1 = 159 then (
                                  let r61 := (zt_ifs u1 a1).1
                                  let u60 := (zt_ifs u1 a1).2
                                  (r61, u60))
                                else (
                                  if a1 = 167 then (
                                    let r64 := (zt_jump u1 1 7 7).1
                                    let u63 := (zt_jump u1 1 7 7).2
                                    (r64, u63))
                                  else (
                                    if a1 = 172 then (
                                      let r67 := (zt_giveBack u1).1
                                      let u66 := (zt_giveBack u1).2
                                      (r67, u66))
                                    else (
                                      if a1 = 182 then (
                                        let r70 := (zt_call u1).1
                                        let u69 := (zt_call u1).2
                                        (r70, u69))
                                      else (
                                        if a1 = 196 then (
                                          let r73 := (zt_wide u1).1
                                          let u72 := (zt_wide u1).2
                                          (r73, u72))
                                        else (
                                          if a1 = 255 then (
                                            let u75 := zts_next u1 (ztg_pc u1)
                                            (2, u75))
                                          else (
                                            let u76 := zts_unknown u1 1
                                            (0, u76))))))))))))))))))))))
set_option maxHeartbeats 4000000 in
set_option maxRecDepth 100000 in
theorem ztM_perform (l : Launch) (k : Ztk) (Dk : ZtD k) (u : Zts) (a1 : Int32) {w0 : Nat → Int32} (hN : ZtG w0 4 u) : Met l yX1_perform (.code yX1_perform cX1_perform 2 (some .int) :: zwT) (zrm 4) (ZtB k [.ref (zta_this k), .int a1] u) (ZtQ k (some (.int (zt_perform u a1).1)) (zt_perform u a1).2) 0 0 (ZtA k) := by
  refine ztE_in (by decide) rfl (Nat.le_of_ble_eq_true rfl) Dk ?_
  intro p e s m below meth c ls C hr hlk hP hl
  have hx := C.1.1
  have hb := C.1.2.1
  have hl : lv_has ls 2 [(0, .ref (zta_this k)), (1, .int a1)] := hl
  have hS : va_S (ZtA k) s.heap s.heap [] := va_S.rf
  refine lv_aload_n hx hb dX1_perform_0 rfl (lv_at hl 0 rfl) ?_
  refine lv_aload_n hx hb dX1_perform_1 rfl (lv_at hl 0 rfl) ?_
  refine ztG_pc C hP dX1_perform_2 ?_
  refine lv_iconst (v := 1) hx hb dX1_perform_5 (by decide) ?_
  refine lv_iadd hx hb dX1_perform_6 ?_
  refine ztP_next C hP hS dX1_perform_7 (fun u1 H locs hu1 hP hS => ?_)
  have hN_u1 : ZtG (w0) 4 u1 := by rw [hu1]; exact zt_Gs_next _ hN
  refine lv_iload_n hx hb dX1_perform_10 rfl (lv_at hl 1 rfl) ?_
  by_cases c2 : a1 = 0
  · refine lv_lookup (off := 177) (tgt := 188) hx hb dX1_perform_11 (by decide) (z_sw c2 (by decide)) (by decide) ?_
    refine lv_iconst (v := 2) hx hb dX1_perform_188 (by decide) ?_
    exact zt_iret C hr hlk hP hS (by subst hu1; first | (unfold zt_perform; rw [if_pos c2]; done) | exact (if_pos c2).trans (rfl)) dX1_perform_189
  · skip
    by_cases c3 : a1 = 16
    · refine lv_lookup (off := 225) (tgt := 236) hx hb dX1_perform_11 (by decide) (z_sw c3 (by decide)) (by decide) ?_
      refine lv_aload_n hx hb dX1_perform_236 rfl (lv_at hl 0 rfl) ?_
      refine lv_aload_n hx hb dX1_perform_237 rfl (lv_at hl 0 rfl) ?_
      refine lv_aload_n hx hb dX1_perform_238 rfl (lv_at hl 0 rfl) ?_
      refine ztG_pc C hP dX1_perform_239 ?_
      refine lv_iconst (v := 1) hx hb dX1_perform_242 (by decide) ?_
      refine lv_iadd hx hb dX1_perform_243 ?_
      refine ztK_byteAt C hP hS hl.1 (by decide) (Nat.le_of_ble_eq_true rfl) dX1_perform_244 (fun r5 u4 H locs hr5 hu4 hP hS => ?_)
      have hN_u4 : ZtG (w0) 4 u4 := by rw [hu4]; exact zt_Gle (by decide) (zt_G_byteAt _ hN_u1)
      refine lv_bipush (v := 8) hx hb dX1_perform_247 (by decide) ?_
      refine ztK_signed C hl.1 (by decide) (Nat.le_of_ble_eq_true rfl) dX1_perform_249 ?_
      refine lv_iconst (v := 2) hx hb dX1_perform_252 (by decide) ?_
      refine lv_iconst (v := 4) hx hb dX1_perform_253 (by decide) ?_
      refine ztK_push C hP hS hl.1 (by decide) (Nat.le_of_ble_eq_true rfl) (w0 := w0) (zt_Gle (by decide) hN_u4) dX1_perform_254 (fun r7 u6 H locs hr7 hu6 hP hS => ?_)
      have hN_u6 : ZtG (w0) 5 u6 := by rw [hu6]; exact zt_Gle (by decide) (zt_G_push _ _ _ (by decide) hN_u4)
      exact zt_iret C hr hlk hP hS (by subst hu6 hr7 hu4 hr5 hu1; first | (unfold zt_perform; rw [if_neg c2, if_pos c3]; done) | exact (if_neg c2).trans ((if_pos c3).trans (rfl))) dX1_perform_257
    · skip
      by_cases c8 : a1 = 19
      · refine lv_lookup (off := 302) (tgt := 313) hx hb dX1_perform_11 (by decide) (z_sw c8 (by decide)) (by decide) ?_
        refine lv_aload_n hx hb dX1_perform_313 rfl (lv_at hl 0 rfl) ?_
        refine lv_aload_n hx hb dX1_perform_314 rfl (lv_at hl 0 rfl) ?_
        refine lv_aload_n hx hb dX1_perform_315 rfl (lv_at hl 0 rfl) ?_
        refine ztG_cpp C hP dX1_perform_316 ?_
        refine lv_aload_n hx hb dX1_perform_319 rfl (lv_at hl 0 rfl) ?_
        refine lv_aload_n hx hb dX1_perform_320 rfl (lv_at hl 0 rfl) ?_
        refine ztG_pc C hP dX1_perform_321 ?_
        refine lv_iconst (v := 1) hx hb dX1_perform_324 (by decide) ?_
        refine lv_iadd hx hb dX1_perform_325 ?_
        refine ztK_pair C hP hS hl.1 (by decide) (Nat.le_of_ble_eq_true rfl) dX1_perform_326 (fun r10 u9 H locs hr10 hu9 hP hS => ?_)
        have hN_u9 : ZtG (w0) 4 u9 := by rw [hu9]; exact zt_Gle (by decide) (zt_G_pair _ hN_u1)
        refine lv_iadd hx hb dX1_perform_329 ?_
        refine ztK_read C hP hS hl.1 (by decide) (Nat.le_of_ble_eq_true rfl) dX1_perform_330 (fun r12 u11 H locs hr12 hu11 hP hS => ?_)
        have hN_u11 : ZtG (w0) 4 u11 := by rw [hu11]; exact zt_Gle (by decide) (zt_G_read _ hN_u9)
        refine lv_iconst (v := 3) hx hb dX1_perform_333 (by decide) ?_
        refine lv_bipush (v := 8) hx hb dX1_perform_334 (by decide) ?_
        refine ztK_push C hP hS hl.1 (by decide) (Nat.le_of_ble_eq_true rfl) (w0 := w0) (zt_Gle (by decide) hN_u11) dX1_perform_336 (fun r14 u13 H locs hr14 hu13 hP hS => ?_)
        have hN_u13 : ZtG (w0) 5 u13 := by rw [hu13]; exact zt_Gle (by decide) (zt_G_push _ _ _ (by decide) hN_u11)
        exact zt_iret C hr hlk hP hS (by subst hu13 hr14 hu11 hr12 hu9 hr10 hu1; first | (unfold zt_perform; rw [if_neg c2, if_neg c3, if_pos c8]; done) | exact (if_neg c2).trans ((if_neg c3).trans ((if_pos c8).trans (rfl)))) dX1_perform_339
      · skip
        by_cases c15 : a1 = 21
        · refine lv_lookup (off := 247) (tgt := 258) hx hb dX1_perform_11 (by decide) (z_sw c15 (by decide)) (by decide) ?_
          refine lv_aload_n hx hb dX1_perform_258 rfl (lv_at hl 0 rfl) ?_
          refine lv_aload_n hx hb dX1_perform_259 rfl (lv_at hl 0 rfl) ?_
          refine lv_aload_n hx hb dX1_perform_260 rfl (lv_at hl 0 rfl) ?_
          refine ztG_lv C hP dX1_perform_261 ?_
          refine lv_aload_n hx hb dX1_perform_264 rfl (lv_at hl 0 rfl) ?_
          refine lv_aload_n hx hb dX1_perform_265 rfl (lv_at hl 0 rfl) ?_
          refine ztG_pc C hP dX1_perform_266 ?_
          refine lv_iconst (v := 1) hx hb dX1_perform_269 (by decide) ?_
          refine lv_iadd hx hb dX1_perform_270 ?_
          refine ztK_byteAt C hP hS hl.1 (by decide) (Nat.le_of_ble_eq_true rfl) dX1_perform_271 (fun r17 u16 H locs hr17 hu16 hP hS => ?_)
          have hN_u16 : ZtG (w0) 4 u16 := by rw [hu16]; exact zt_Gle (by decide) (zt_G_byteAt _ hN_u1)
          refine lv_iadd hx hb dX1_perform_274 ?_
          refine ztK_read C hP hS hl.1 (by decide) (Nat.le_of_ble_eq_true rfl) dX1_perform_275 (fun r19 u18 H locs hr19 hu18 hP hS => ?_)
          have hN_u18 : ZtG (w0) 4 u18 := by rw [hu18]; exact zt_Gle (by decide) (zt_G_read _ hN_u16)
          refine lv_iconst (v := 2) hx hb dX1_perform_278 (by decide) ?_
          refine lv_bipush (v := 6) hx hb dX1_perform_279 (by decide) ?_
          refine ztK_push C hP hS hl.1 (by decide) (Nat.le_of_ble_eq_true rfl) (w0 := w0) (zt_Gle (by decide) hN_u18) dX1_perform_281 (fun r21 u20 H locs hr21 hu20 hP hS => ?_)
          have hN_u20 : ZtG (w0) 5 u20 := by rw [hu20]; exact zt_Gle (by decide) (zt_G_push _ _ _ (by decide) hN_u18)
          exact zt_iret C hr hlk hP hS (by subst hu20 hr21 hu18 hr19 hu16 hr17 hu1; first | (unfold zt_perform; rw [if_neg c2, if_neg c3, if_neg c8, if_pos c15]; done) | exact (if_neg c2).trans ((if_neg c3).trans ((if_neg c8).trans ((if_pos c15).trans (rfl))))) dX1_perform_284
        · skip
          by_cases c22 : a1 = 54
          · refine lv_lookup (off := 274) (tgt := 285) hx hb dX1_perform_11 (by decide) (z_sw c22 (by decide)) (by decide) ?_
            refine lv_aload_n hx hb dX1_perform_285 rfl (lv_at hl 0 rfl) ?_
            refine lv_aload_n hx hb dX1_perform_286 rfl (lv_at hl 0 rfl) ?_
            refine ztG_lv C hP dX1_perform_287 ?_
            refine lv_aload_n hx hb dX1_perform_290 rfl (lv_at hl 0 rfl) ?_
            refine lv_aload_n hx hb dX1_perform_291 rfl (lv_at hl 0 rfl) ?_
            refine ztG_pc C hP dX1_perform_292 ?_
            refine lv_iconst (v := 1) hx hb dX1_perform_295 (by decide) ?_
            refine lv_iadd hx hb dX1_perform_296 ?_
            refine ztK_byteAt C hP hS hl.1 (by decide) (Nat.le_of_ble_eq_true rfl) dX1_perform_297 (fun r24 u23 H locs hr24 hu23 hP hS => ?_)
            have hN_u23 : ZtG (w0) 4 u23 := by rw [hu23]; exact zt_Gle (by decide) (zt_G_byteAt _ hN_u1)
            refine lv_iadd hx hb dX1_perform_300 ?_
            refine lv_iconst (v := 2) hx hb dX1_perform_301 (by decide) ?_
            refine lv_bipush (v := 7) hx hb dX1_perform_302 (by decide) ?_
            refine ztK_store C hP hS hl.1 (by decide) (Nat.le_of_ble_eq_true rfl) (w0 := w0) (zt_Gle (by decide) hN_u23) dX1_perform_304 (fun r26 u25 H locs hr26 hu25 hP hS => ?_)
            have hN_u25 : ZtG (w0) 5 u25 := by rw [hu25]; exact zt_Gle (by decide) (zt_G_store _ _ _ (by decide) hN_u23)
            exact zt_iret C hr hlk hP hS (by subst hu25 hr26 hu23 hr24 hu1; first | (unfold zt_perform; rw [if_neg c2, if_neg c3, if_neg c8, if_neg c15, if_pos c22]; done) | exact (if_neg c2).trans ((if_neg c3).trans ((if_neg c8).trans ((if_neg c15).trans ((if_pos c22).trans (rfl)))))) dX1_perform_307
          · skip
            by_cases c27 : a1 = 87
            · refine lv_lookup (off := 196) (tgt := 207) hx hb dX1_perform_11 (by decide) (z_sw c27 (by decide)) (by decide) ?_
              refine lv_aload_n hx hb dX1_perform_207 rfl (lv_at hl 0 rfl) ?_
              refine lv_dup hx hb dX1_perform_208 rfl ?_
              refine ztG_sp C hP dX1_perform_209 ?_
              refine lv_iconst (v := 1) hx hb dX1_perform_212 (by decide) ?_
              refine lv_isub hx hb dX1_perform_213 ?_
              refine ztP_sp C hP hS dX1_perform_214 (fun u28 H locs hu28 hP hS => ?_)
              have hN_u28 : ZtG (w0) 4 u28 := by rw [hu28]; exact zt_Gs_sp _ hN_u1
              refine lv_aload_n hx hb dX1_perform_217 rfl (lv_at hl 0 rfl) ?_
              refine lv_aload_n hx hb dX1_perform_218 rfl (lv_at hl 0 rfl) ?_
              refine lv_aload_n hx hb dX1_perform_219 rfl (lv_at hl 0 rfl) ?_
              refine ztG_sp C hP dX1_perform_220 ?_
              refine ztK_read C hP hS hl.1 (by decide) (Nat.le_of_ble_eq_true rfl) dX1_perform_223 (fun r30 u29 H locs hr30 hu29 hP hS => ?_)
              have hN_u29 : ZtG (w0) 4 u29 := by rw [hu29]; exact zt_Gle (by decide) (zt_G_read _ hN_u28)
              refine ztP_top C hP hS dX1_perform_226 (fun u31 H locs hu31 hP hS => ?_)
              have hN_u31 : ZtG (w0) 4 u31 := by rw [hu31]; exact zt_Gs_top _ hN_u29
              refine lv_iconst (v := 4) hx hb dX1_perform_229 (by decide) ?_
              exact zt_iret C hr hlk hP hS (by subst hu31 hu29 hr30 hu28 hu1; first | (unfold zt_perform; rw [if_neg c2, if_neg c3, if_neg c8, if_neg c15, if_neg c22, if_pos c27]; done) | exact (if_neg c2).trans ((if_neg c3).trans ((if_neg c8).trans ((if_neg c15).trans ((if_neg c22).trans ((if_pos c27).trans (rfl))))))) dX1_perform_230
            · skip
              by_cases c32 : a1 = 89
              · refine lv_lookup (off := 185) (tgt := 196) hx hb dX1_perform_11 (by decide) (z_sw c32 (by decide)) (by decide) ?_
                refine lv_aload_n hx hb dX1_perform_196 rfl (lv_at hl 0 rfl) ?_
                refine lv_aload_n hx hb dX1_perform_197 rfl (lv_at hl 0 rfl) ?_
                refine ztG_top C hP dX1_perform_198 ?_
                refine lv_iconst (v := 1) hx hb dX1_perform_201 (by decide) ?_
                refine lv_iconst (v := 3) hx hb dX1_perform_202 (by decide) ?_
                refine ztK_push C hP hS hl.1 (by decide) (Nat.le_of_ble_eq_true rfl) (w0 := w0) (zt_Gle (by decide) hN_u1) dX1_perform_203 (fun r34 u33 H locs hr34 hu33 hP hS => ?_)
                have hN_u33 : ZtG (w0) 5 u33 := by rw [hu33]; exact zt_Gle (by decide) (zt_G_push _ _ _ (by decide) hN_u1)
                exact zt_iret C hr hlk hP hS (by subst hu33 hr34 hu1; first | (unfold zt_perform; rw [if_neg c2, if_neg c3, if_neg c8, if_neg c15, if_neg c22, if_neg c27, if_pos c32]; done) | exact (if_neg c2).trans ((if_neg c3).trans ((if_neg c8).trans ((if_neg c15).trans ((if_neg c22).trans ((if_neg c27).trans ((if_pos c32).trans (rfl)))))))) dX1_perform_206
              · skip
                by_cases c35 : a1 = 95
                · refine lv_lookup (off := 220) (tgt := 231) hx hb dX1_perform_11 (by decide) (z_sw c35 (by decide)) (by decide) ?_
                  refine lv_aload_n hx hb dX1_perform_231 rfl (lv_at hl 0 rfl) ?_
                  refine ztK_swap C hP hS hl.1 (by decide) (Nat.le_of_ble_eq_true rfl) (w0 := w0) (zt_Gle (by decide) hN_u1) dX1_perform_232 (fun r37 u36 H locs hr37 hu36 hP hS => ?_)
                  have hN_u36 : ZtG (w0) 6 u36 := by rw [hu36]; exact zt_Gle (by decide) (zt_G_swap  (by decide) hN_u1)
                  exact zt_iret C hr hlk hP hS (by subst hu36 hr37 hu1; first | (unfold zt_perform; rw [if_neg c2, if_neg c3, if_neg c8, if_neg c15, if_neg c22, if_neg c27, if_neg c32, if_pos c35]; done) | exact (if_neg c2).trans ((if_neg c3).trans ((if_neg c8).trans ((if_neg c15).trans ((if_neg c22).trans ((if_neg c27).trans ((if_neg c32).trans ((if_pos c35).trans (rfl))))))))) dX1_perform_235
                · skip
                  by_cases c38 : a1 = 96
                  · refine lv_lookup (off := 179) (tgt := 190) hx hb dX1_perform_11 (by decide) (z_sw c38 (by decide)) (by decide) ?_
                    refine lv_aload_n hx hb dX1_perform_190 rfl (lv_at hl 0 rfl) ?_
                    refine lv_iload_n hx hb dX1_perform_191 rfl (lv_at hl 1 rfl) ?_
                    refine ztK_reckon C hP hS hl.1 (by decide) (Nat.le_of_ble_eq_true rfl) (w0 := w0) (zt_Gle (by decide) hN_u1) dX1_perform_192 (fun r40 u39 H locs hr40 hu39 hP hS => ?_)
                    have hN_u39 : ZtG (w0) 5 u39 := by rw [hu39]; exact zt_Gle (by decide) (zt_G_reckon _ (by decide) hN_u1)
                    exact zt_iret C hr hlk hP hS (by subst hu39 hr40 hu1; first | (unfold zt_perform; rw [if_neg c2, if_neg c3, if_neg c8, if_neg c15, if_neg c22, if_neg c27, if_neg c32, if_neg c35, if_pos c38]; done) | exact (if_neg c2).trans ((if_neg c3).trans ((if_neg c8).trans ((if_neg c15).trans ((if_neg c22).trans ((if_neg c27).trans ((if_neg c32).trans ((if_neg c35).trans ((if_pos c38).trans (rfl)))))))))) dX1_perform_195
                  · skip
                    by_cases c41 : a1 = 100
                    · refine lv_lookup (off := 179) (tgt := 190) hx hb dX1_perform_11 (by decide) (z_sw c41 (by decide)) (by decide) ?_
                      refine lv_aload_n hx hb dX1_perform_190 rfl (lv_at hl 0 rfl) ?_
                      refine lv_iload_n hx hb dX1_perform_191 rfl (lv_at hl 1 rfl) ?_
                      refine ztK_reckon C hP hS hl.1 (by decide) (Nat.le_of_ble_eq_true rfl) (w0 := w0) (zt_Gle (by decide) hN_u1) dX1_perform_192 (fun r43 u42 H locs hr43 hu42 hP hS => ?_)
                      have hN_u42 : ZtG (w0) 5 u42 := by rw [hu42]; exact zt_Gle (by decide) (zt_G_reckon _ (by decide) hN_u1)
                      exact zt_iret C hr hlk hP hS (by subst hu42 hr43 hu1; first | (unfold zt_perform; rw [if_neg c2, if_neg c3, if_neg c8, if_neg c15, if_neg c22, if_neg c27, if_neg c32, if_neg c35, if_neg c38, if_pos c41]; done) | exact (if_neg c2).trans ((if_neg c3).trans ((if_neg c8).trans ((if_neg c15).trans ((if_neg c22).trans ((if_neg c27).trans ((if_neg c32).trans ((if_neg c35).trans ((if_neg c38).trans ((if_pos c41).trans (rfl))))))))))) dX1_perform_195
                    · skip
                      by_cases c44 : a1 = 126
                      · refine lv_lookup (off := 179) (tgt := 190) hx hb dX1_perform_11 (by decide) (z_sw c44 (by decide)) (by decide) ?_
                        refine lv_aload_n hx hb dX1_perform_190 rfl (lv_at hl 0 rfl) ?_
                        refine lv_iload_n hx hb dX1_perform_191 rfl (lv_at hl 1 rfl) ?_
                        refine ztK_reckon C hP hS hl.1 (by decide) (Nat.le_of_ble_eq_true rfl) (w0 := w0) (zt_Gle (by decide) hN_u1) dX1_perform_192 (fun r46 u45 H locs hr46 hu45 hP hS => ?_)
                        have hN_u45 : ZtG (w0) 5 u45 := by rw [hu45]; exact zt_Gle (by decide) (zt_G_reckon _ (by decide) hN_u1)
                        exact zt_iret C hr hlk hP hS (by subst hu45 hr46 hu1; first | (unfold zt_perform; rw [if_neg c2, if_neg c3, if_neg c8, if_neg c15, if_neg c22, if_neg c27, if_neg c32, if_neg c35, if_neg c38, if_neg c41, if_pos c44]; done) | exact (if_neg c2).trans ((if_neg c3).trans ((if_neg c8).trans ((if_neg c15).trans ((if_neg c22).trans ((if_neg c27).trans ((if_neg c32).trans ((if_neg c35).trans ((if_neg c38).trans ((if_neg c41).trans ((if_pos c44).trans (rfl)))))))))))) dX1_perform_195
                      · skip
                        by_cases c47 : a1 = 128
                        · refine lv_lookup (off := 179) (tgt := 190) hx hb dX1_perform_11 (by decide) (z_sw c47 (by decide)) (by decide) ?_
                          refine lv_aload_n hx hb dX1_perform_190 rfl (lv_at hl 0 rfl) ?_
                          refine lv_iload_n hx hb dX1_perform_191 rfl (lv_at hl 1 rfl) ?_
                          refine ztK_reckon C hP hS hl.1 (by decide) (Nat.le_of_ble_eq_true rfl) (w0 := w0) (zt_Gle (by decide) hN_u1) dX1_perform_192 (fun r49 u48 H locs hr49 hu48 hP hS => ?_)
                          have hN_u48 : ZtG (w0) 5 u48 := by rw [hu48]; exact zt_Gle (by decide) (zt_G_reckon _ (by decide) hN_u1)
                          exact zt_iret C hr hlk hP hS (by subst hu48 hr49 hu1; first | (unfold zt_perform; rw [if_neg c2, if_neg c3, if_neg c8, if_neg c15, if_neg c22, if_neg c27, if_neg c32, if_neg c35, if_neg c38, if_neg c41, if_neg c44, if_pos c47]; done) | exact (if_neg c2).trans ((if_neg c3).trans ((if_neg c8).trans ((if_neg c15).trans ((if_neg c22).trans ((if_neg c27).trans ((if_neg c32).trans ((if_neg c35).trans ((if_neg c38).trans ((if_neg c41).trans ((if_neg c44).trans ((if_pos c47).trans (rfl))))))))))))) dX1_perform_195
                        · skip
                          by_cases c50 : a1 = 132
                          · refine lv_lookup (off := 329) (tgt := 340) hx hb dX1_perform_11 (by decide) (z_sw c50 (by decide)) (by decide) ?_
                            refine lv_aload_n hx hb dX1_perform_340 rfl (lv_at hl 0 rfl) ?_
                            refine ztK_increase C hP hS hl.1 (by decide) (Nat.le_of_ble_eq_true rfl) (w0 := w0) (zt_Gle (by decide) hN_u1) dX1_perform_341 (fun r52 u51 H locs hr52 hu51 hP hS => ?_)
                            have hN_u51 : ZtG (w0) 5 u51 := by rw [hu51]; exact zt_Gle (by decide) (zt_G_increase  (by decide) hN_u1)
                            exact zt_iret C hr hlk hP hS (by subst hu51 hr52 hu1; first | (unfold zt_perform; rw [if_neg c2, if_neg c3, if_neg c8, if_neg c15, if_neg c22, if_neg c27, if_neg c32, if_neg c35, if_neg c38, if_neg c41, if_neg c44, if_neg c47, if_pos c50]; done) | exact (if_neg c2).trans ((if_neg c3).trans ((if_neg c8).trans ((if_neg c15).trans ((if_neg c22).trans ((if_neg c27).trans ((if_neg c32).trans ((if_neg c35).trans ((if_neg c38).trans ((if_neg c41).trans ((if_neg c44).trans ((if_neg c47).trans ((if_pos c50).trans (rfl)))))))))))))) dX1_perform_344
                          · skip
                            by_cases c53 : a1 = 153
                            · refine lv_lookup (off := 344) (tgt := 355) hx hb dX1_perform_11 (by decide) (z_sw c53 (by decide)) (by decide) ?_
                              refine lv_aload_n hx hb dX1_perform_355 rfl (lv_at hl 0 rfl) ?_
                              refine lv_iload_n hx hb dX1_perform_356 rfl (lv_at hl 1 rfl) ?_
                              refine ztK_ifs C hP hS hl.1 (by decide) (Nat.le_of_ble_eq_true rfl) dX1_perform_357 (fun r55 u54 H locs hr55 hu54 hP hS => ?_)
                              have hN_u54 : ZtG (w0) 4 u54 := by rw [hu54]; exact zt_Gle (by decide) (zt_G_ifs _ hN_u1)
                              exact zt_iret C hr hlk hP hS (by subst hu54 hr55 hu1; first | (unfold zt_perform; rw [if_neg c2, if_neg c3, if_neg c8, if_neg c15, if_neg c22, if_neg c27, if_neg c32, if_neg c35, if_neg c38, if_neg c41, if_neg c44, if_neg c47, if_neg c50, if_pos c53]; done) | exact (if_neg c2).trans ((if_neg c3).trans ((if_neg c8).trans ((if_neg c15).trans ((if_neg c22).trans ((if_neg c27).trans ((if_neg c32).trans ((if_neg c35).trans ((if_neg c38).trans ((if_neg c41).trans ((if_neg c44).trans ((if_neg c47).trans ((if_neg c50).trans ((if_pos c53).trans (rfl))))))))))))))) dX1_perform_360
                            · skip
                              by_cases c56 : a1 = 155
                              · refine lv_lookup (off := 344) (tgt := 355) hx hb dX1_perform_11 (by decide) (z_sw c56 (by decide)) (by decide) ?_
                                refine lv_aload_n hx hb dX1_perform_355 rfl (lv_at hl 0 rfl) ?_
                                refine lv_iload_n hx hb dX1_perform_356 rfl (lv_at hl 1 rfl) ?_
                                refine ztK_ifs C hP hS hl.1 (by decide) (Nat.le_of_ble_eq_true rfl) dX1_perform_357 (fun r58 u57 H locs hr58 hu57 hP hS => ?_)
                                have hN_u57 : ZtG (w0) 4 u57 := by rw [hu57]; exact zt_Gle (by decide) (zt_G_ifs _ hN_u1)
                                exact zt_iret C hr hlk hP hS (by subst hu57 hr58 hu1; first | (unfold zt_perform; rw [if_neg c2, if_neg c3, if_neg c8, if_neg c15, if_neg c22, if_neg c27, if_neg c32, if_neg c35, if_neg c38, if_neg c41, if_neg c44, if_neg c47, if_neg c50, if_neg c53, if_pos c56]; done) | exact (if_neg c2).trans ((if_neg c3).trans ((if_neg c8).trans ((if_neg c15).trans ((if_neg c22).trans ((if_neg c27).trans ((if_neg c32).trans ((if_neg c35).trans ((if_neg c38).trans ((if_neg c41).trans ((if_neg c44).trans ((if_neg c47).trans ((if_neg c50).trans ((if_neg c53).trans ((if_pos c56).trans (rfl)))))))))))))))) dX1_perform_360
                              · skip
                                by_cases c59 : a1 = 159
                                · refine lv_lookup (off := 344) (tgt := 355) hx hb dX1_perform_11 (by decide) (z_sw c59 (by decide)) (by decide) ?_
                                  refine lv_aload_n hx hb dX1_perform_355 rfl (lv_at hl 0 rfl) ?_
                                  refine lv_iload_n hx hb dX1_perform_356 rfl (lv_at hl 1 rfl) ?_
                                  refine ztK_ifs C hP hS hl.1 (by decide) (Nat.le_of_ble_eq_true rfl) dX1_perform_357 (fun r61 u60 H locs hr61 hu60 hP hS => ?_)
                                  have hN_u60 : ZtG (w0) 4 u60 := by rw [hu60]; exact zt_Gle (by decide) (zt_G_ifs _ hN_u1)
                                  exact zt_iret C hr hlk hP hS (by subst hu60 hr61 hu1; first | (unfold zt_perform; rw [if_neg c2, if_neg c3, if_neg c8, if_neg c15, if_neg c22, if_neg c27, if_neg c32, if_neg c35, if_neg c38, if_neg c41, if_neg c44, if_neg c47, if_neg c50, if_neg c53, if_neg c56, if_pos c59]; done) | exact (if_neg c2).trans ((if_neg c3).trans ((if_neg c8).trans ((if_neg c15).trans ((if_neg c22).trans ((if_neg c27).trans ((if_neg c32).trans ((if_neg c35).trans ((if_neg c38).trans ((if_neg c41).trans ((if_neg c44).trans ((if_neg c47).trans ((if_neg c50).trans ((if_neg c53).trans ((if_neg c56).trans ((if_pos c59).trans (rfl))))))))))))))))) dX1_perform_360
                                · skip
                                  by_cases c62 : a1 = 167
                                  · refine lv_lookup (off := 334) (tgt := 345) hx hb dX1_perform_11 (by decide) (z_sw c62 (by decide)) (by decide) ?_
                                    refine lv_aload_n hx hb dX1_perform_345 rfl (lv_at hl 0 rfl) ?_
                                    refine lv_iconst (v := 1) hx hb dX1_perform_346 (by decide) ?_
                                    refine lv_bipush (v := 7) hx hb dX1_perform_347 (by decide) ?_
                                    refine lv_bipush (v := 7) hx hb dX1_perform_349 (by decide) ?_
                                    refine ztK_jump C hP hS hl.1 (by decide) (Nat.le_of_ble_eq_true rfl) dX1_perform_351 (fun r64 u63 H locs hr64 hu63 hP hS => ?_)
                                    have hN_u63 : ZtG (w0) 4 u63 := by rw [hu63]; exact zt_Gle (by decide) (zt_G_jump _ _ _ hN_u1)
                                    exact zt_iret C hr hlk hP hS (by subst hu63 hr64 hu1; first | (unfold zt_perform; rw [if_neg c2, if_neg c3, if_neg c8, if_neg c15, if_neg c22, if_neg c27, if_neg c32, if_neg c35, if_neg c38, if_neg c41, if_neg c44, if_neg c47, if_neg c50, if_neg c53, if_neg c56, if_neg c59, if_pos c62]; done) | exact (if_neg c2).trans ((if_neg c3).trans ((if_neg c8).trans ((if_neg c15).trans ((if_neg c22).trans ((if_neg c27).trans ((if_neg c32).trans ((if_neg c35).trans ((if_neg c38).trans ((if_neg c41).trans ((if_neg c44).trans ((if_neg c47).trans ((if_neg c50).trans ((if_neg c53).trans ((if_neg c56).trans ((if_neg c59).trans ((if_pos c62).trans (rfl)))))))))))))))))) dX1_perform_354
                                  · skip
                                    by_cases c65 : a1 = 172
                                    · refine lv_lookup (off := 355) (tgt := 366) hx hb dX1_perform_11 (by decide) (z_sw c65 (by decide)) (by decide) ?_
                                      refine lv_aload_n hx hb dX1_perform_366 rfl (lv_at hl 0 rfl) ?_
                                      refine ztK_giveBack C hP hS hl.1 (by decide) (Nat.le_of_ble_eq_true rfl) (w0 := w0) (zt_Gle (by decide) hN_u1) dX1_perform_367 (fun r67 u66 H locs hr67 hu66 hP hS => ?_)
                                      have hN_u66 : ZtG (w0) 5 u66 := by rw [hu66]; exact zt_Gle (by decide) (zt_G_giveBack  (by decide) hN_u1)
                                      exact zt_iret C hr hlk hP hS (by subst hu66 hr67 hu1; first | (unfold zt_perform; rw [if_neg c2, if_neg c3, if_neg c8, if_neg c15, if_neg c22, if_neg c27, if_neg c32, if_neg c35, if_neg c38, if_neg c41, if_neg c44, if_neg c47, if_neg c50, if_neg c53, if_neg c56, if_neg c59, if_neg c62, if_pos c65]; done) | exact (if_neg c2).trans ((if_neg c3).trans ((if_neg c8).trans ((if_neg c15).trans ((if_neg c22).trans ((if_neg c27).trans ((if_neg c32).trans ((if_neg c35).trans ((if_neg c38).trans ((if_neg c41).trans ((if_neg c44).trans ((if_neg c47).trans ((if_neg c50).trans ((if_neg c53).trans ((if_neg c56).trans ((if_neg c59).trans ((if_neg c62).trans ((if_pos c65).trans (rfl))))))))))))))))))) dX1_perform_370
                                    · skip
                                      by_cases c68 : a1 = 182
                                      · refine lv_lookup (off := 350) (tgt := 361) hx hb dX1_perform_11 (by decide) (z_sw c68 (by decide)) (by decide) ?_
                                        refine lv_aload_n hx hb dX1_perform_361 rfl (lv_at hl 0 rfl) ?_
                                        refine ztK_call C hP hS hl.1 (by decide) (Nat.le_of_ble_eq_true rfl) (w0 := w0) (zt_Gle (by decide) hN_u1) dX1_perform_362 (fun r70 u69 H locs hr70 hu69 hP hS => ?_)
                                        have hN_u69 : ZtG (w0) 7 u69 := by rw [hu69]; exact zt_Gle (by decide) (zt_G_call  (by decide) hN_u1)
                                        exact zt_iret C hr hlk hP hS (by subst hu69 hr70 hu1; first | (unfold zt_perform; rw [if_neg c2, if_neg c3, if_neg c8, if_neg c15, if_neg c22, if_neg c27, if_neg c32, if_neg c35, if_neg c38, if_neg c41, if_neg c44, if_neg c47, if_neg c50, if_neg c53, if_neg c56, if_neg c59, if_neg c62, if_neg c65, if_pos c68]; done) | exact (if_neg c2).trans ((if_neg c3).trans ((if_neg c8).trans ((if_neg c15).trans ((if_neg c22).trans ((if_neg c27).trans ((if_neg c32).trans ((if_neg c35).trans ((if_neg c38).trans ((if_neg c41).trans ((if_neg c44).trans ((if_neg c47).trans ((if_neg c50).trans ((if_neg c53).trans ((if_neg c56).trans ((if_neg c59).trans ((if_neg c62).trans ((if_neg c65).trans ((if_pos c68).trans (rfl)))))))))))))))))))) dX1_perform_365
                                      · skip
                                        by_cases c71 : a1 = 196
                                        · refine lv_lookup (off := 297) (tgt := 308) hx hb dX1_perform_11 (by decide) (z_sw c71 (by decide)) (by decide) ?_
                                          refine lv_aload_n hx hb dX1_perform_308 rfl (lv_at hl 0 rfl) ?_
                                          refine ztK_wide C hP hS hl.1 (by decide) (Nat.le_of_ble_eq_true rfl) (w0 := w0) (zt_Gle (by decide) hN_u1) dX1_perform_309 (fun r73 u72 H locs hr73 hu72 hP hS => ?_)
                                          have hN_u72 : ZtG (w0) 5 u72 := by rw [hu72]; exact zt_Gle (by decide) (zt_G_wide  (by decide) hN_u1)
                                          exact zt_iret C hr hlk hP hS (by subst hu72 hr73 hu1; first | (unfold zt_perform; rw [if_neg c2, if_neg c3, if_neg c8, if_neg c15, if_neg c22, if_neg c27, if_neg c32, if_neg c35, if_neg c38, if_neg c41, if_neg c44, if_neg c47, if_neg c50, if_neg c53, if_neg c56, if_neg c59, if_neg c62, if_neg c65, if_neg c68, if_pos c71]; done) | exact (if_neg c2).trans ((if_neg c3).trans ((if_neg c8).trans ((if_neg c15).trans ((if_neg c22).trans ((if_neg c27).trans ((if_neg c32).trans ((if_neg c35).trans ((if_neg c38).trans ((if_neg c41).trans ((if_neg c44).trans ((if_neg c47).trans ((if_neg c50).trans ((if_neg c53).trans ((if_neg c56).trans ((if_neg c59).trans ((if_neg c62).trans ((if_neg c65).trans ((if_neg c68).trans ((if_pos c71).trans (rfl))))))))))))))))))))) dX1_perform_312
                                        · skip
                                          by_cases c74 : a1 = 255
                                          · refine lv_lookup (off := 360) (tgt := 371) hx hb dX1_perform_11 (by decide) (z_sw c74 (by decide)) (by decide) ?_
                                            refine lv_aload_n hx hb dX1_perform_371 rfl (lv_at hl 0 rfl) ?_
                                            refine lv_aload_n hx hb dX1_perform_372 rfl (lv_at hl 0 rfl) ?_
                                            refine ztG_pc C hP dX1_perform_373 ?_
                                            refine ztP_next C hP hS dX1_perform_376 (fun u75 H locs hu75 hP hS => ?_)
                                            have hN_u75 : ZtG (w0) 4 u75 := by rw [hu75]; exact zt_Gs_next _ hN_u1
                                            refine lv_iconst (v := 2) hx hb dX1_perform_379 (by decide) ?_
                                            exact zt_iret C hr hlk hP hS (by subst hu75 hu1; first | (unfold zt_perform; rw [if_neg c2, if_neg c3, if_neg c8, if_neg c15, if_neg c22, if_neg c27, if_neg c32, if_neg c35, if_neg c38, if_neg c41, if_neg c44, if_neg c47, if_neg c50, if_neg c53, if_neg c56, if_neg c59, if_neg c62, if_neg c65, if_neg c68, if_neg c71, if_pos c74]; done) | exact (if_neg c2).trans ((if_neg c3).trans ((if_neg c8).trans ((if_neg c15).trans ((if_neg c22).trans ((if_neg c27).trans ((if_neg c32).trans ((if_neg c35).trans ((if_neg c38).trans ((if_neg c41).trans ((if_neg c44).trans ((if_neg c47).trans ((if_neg c50).trans ((if_neg c53).trans ((if_neg c56).trans ((if_neg c59).trans ((if_neg c62).trans ((if_neg c65).trans ((if_neg c68).trans ((if_neg c71).trans ((if_pos c74).trans (rfl)))))))))))))))))))))) dX1_perform_380
                                          · skip
                                            refine lv_lookup (off := 370) (tgt := 381) hx hb dX1_perform_11 (by decide) ((lv_osw c2 (by decide)).trans ((lv_osw c3 (by decide)).trans ((lv_osw c8 (by decide)).trans ((lv_osw c15 (by decide)).trans ((lv_osw c22 (by decide)).trans ((lv_osw c27 (by decide)).trans ((lv_osw c32 (by decide)).trans ((lv_osw c35 (by decide)).trans ((lv_osw c38 (by decide)).trans ((lv_osw c41 (by decide)).trans ((lv_osw c44 (by decide)).trans ((lv_osw c47 (by decide)).trans ((lv_osw c50 (by decide)).trans ((lv_osw c53 (by decide)).trans ((lv_osw c56 (by decide)).trans ((lv_osw c59 (by decide)).trans ((lv_osw c62 (by decide)).trans ((lv_osw c65 (by decide)).trans ((lv_osw c68 (by decide)).trans ((lv_osw c71 (by decide)).trans ((lv_osw c74 (by decide)).trans (rfl)))))))))))))))))))))) (by decide) ?_
                                            refine lv_aload_n hx hb dX1_perform_381 rfl (lv_at hl 0 rfl) ?_
                                            refine lv_iconst (v := 1) hx hb dX1_perform_382 (by decide) ?_
                                            refine ztP_unknown C hP hS rfl rfl dX1_perform_383 (fun u76 H locs hu76 hP hS => ?_)
                                            have hN_u76 : ZtG (w0) 4 u76 := by rw [hu76]; exact zt_Gs_unknown _ hN_u1
                                            refine lv_iconst (v := 0) hx hb dX1_perform_386 (by decide) ?_
                                            exact zt_iret C hr hlk hP hS (by subst hu76 hu1; first | (unfold zt_perform; rw [if_neg c2, if_neg c3, if_neg c8, if_neg c15, if_neg c22, if_neg c27, if_neg c32, if_neg c35, if_neg c38, if_neg c41, if_neg c44, if_neg c47, if_neg c50, if_neg c53, if_neg c56, if_neg c59, if_neg c62, if_neg c65, if_neg c68, if_neg c71, if_neg c74]; done) | exact (if_neg c2).trans ((if_neg c3).trans ((if_neg c8).trans ((if_neg c15).trans ((if_neg c22).trans ((if_neg c27).trans ((if_neg c32).trans ((if_neg c35).trans ((if_neg c38).trans ((if_neg c41).trans ((if_neg c44).trans ((if_neg c47).trans ((if_neg c50).trans ((if_neg c53).trans ((if_neg c56).trans ((if_neg c59).trans ((if_neg c62).trans ((if_neg c65).trans ((if_neg c68).trans ((if_neg c71).trans ((if_neg c74).trans (rfl)))))))))))))))))))))) dX1_perform_387
section
variable {p : Program} {l : Launch} {e : Env} {R : Room} {s : State} {m : MethodId} {args : Array Value} {below : List Frame} {meth : Method} {c : Code} {H : Heap} {locs : List Loc} {Q : State → Prop} {cc : ByteArray} {pc nL : Nat} {ls : Array Slot} {rest : List Value} {k : Ztk} {u : Zts} {H0 : Heap}
set_option maxHeartbeats 4000000 in
set_option maxRecDepth 100000 in
theorem ztK_perform {a1 : Int32} (C : ZtC p s m args c cc nL k) (hP : ZtP k u H) (hS : va_S (ZtA k) H0 H locs) (hsz : ls.size = nL) (hR : 4 + 1 ≤ R.frames ∧ 8 + (2 + 11) + 40 * 4 ≤ R.locals) (hw : (rest.map fun v => v.category).sum ≤ 8) {w0 : Nat → Int32} (hN : ZtG w0 4 u) (hdg : decode cc pc = .ok (.invokevirtual 118, 3)) (kk : ∀ (r1 : Int32) (u1 : Zts) (H1 : Heap) (locs1 : List Loc), r1 = (zt_perform u a1).1 → u1 = (zt_perform u a1).2 → ZtP k u1 H1 → va_S (ZtA k) H0 H1 locs1 → W p l e R s m args below meth c H1 locs1 0 0 Q (F0 m (pc + 3) ls (.int r1 :: rest))) : W p l e R s m args below meth c H locs 0 0 Q (F0 m pc ls (.int a1 :: .ref (zta_this k) :: rest)) :=
  zt_callV (y := yX1_perform) (n := 1) (As := [.int a1]) C (ztM_perform l k C.2.2 u a1 hN) zwT_c_perform zwT_l_perform zwT_i_perform zwT_v_perform rfl (by decide +kernel) hP hS hsz hR hw rfl hdg (fun H1 locs1 hP1 hS1 => kk _ _ H1 locs1 rfl rfl hP1 hS1)
end
set_option maxHeartbeats 4000000 in
theorem zt_G_perform {w0 : Nat → Int32} {n : Nat} {u : Zts} (a1 : Int32) (hn : n ≤ 4) (h : ZtG w0 n u) : ZtG w0 (n + 3) (zt_perform u a1).2 := by
  have gu : ZtG w0 (n + 0) u := h
  obtain ⟨u1, hu1⟩ : ∃ z, z = zts_next u ((ztg_pc u) + 1) := ⟨_, rfl⟩
  have gu1 : ZtG w0 (n + 0) u1 := by rw [hu1]; exact zt_Gs_next _ gu
  by_cases e2 : a1 = 0
  · have eq9 : zt_perform u a1 = (2, u1) := by subst hu1; first | (unfold zt_perform; rw [if_pos e2]; done) | exact (if_pos e2).trans (rfl)
    rw [eq9]; exact zt_Gle (by omega) gu1
  · by_cases e5 : a1 = 16
    · obtain ⟨r5, hr5⟩ : ∃ z, z = (zt_byteAt u1 ((ztg_pc u1) + 1)).1 := ⟨_, rfl⟩
      obtain ⟨u4, hu4⟩ : ∃ z, z = (zt_byteAt u1 ((ztg_pc u1) + 1)).2 := ⟨_, rfl⟩
      have gu4 : ZtG w0 (n + 0) u4 := by rw [hu4]; exact zt_Gle (by omega) (zt_G_byteAt _ gu1)
      obtain ⟨r7, hr7⟩ : ∃ z, z = (zt_push u4 (zt_signed r5 8) 2 4).1 := ⟨_, rfl⟩
      obtain ⟨u6, hu6⟩ : ∃ z, z = (zt_push u4 (zt_signed r5 8) 2 4).2 := ⟨_, rfl⟩
      have gu6 : ZtG w0 (n + 1) u6 := by rw [hu6]; exact zt_Gle (by omega) (zt_G_push _ _ _ (by omega) gu4)
      have eq9 : zt_perform u a1 = (r7, u6) := by subst hu6 hr7 hu4 hr5 hu1; first | (unfold zt_perform; rw [if_neg e2, if_pos e5]; done) | exact (if_neg e2).trans ((if_pos e5).trans (rfl))
      rw [eq9]; exact zt_Gle (by omega) gu6
    · by_cases e14 : a1 = 19
      · obtain ⟨r10, hr10⟩ : ∃ z, z = (zt_pair u1 ((ztg_pc u1) + 1)).1 := ⟨_, rfl⟩
        obtain ⟨u9, hu9⟩ : ∃ z, z = (zt_pair u1 ((ztg_pc u1) + 1)).2 := ⟨_, rfl⟩
        have gu9 : ZtG w0 (n + 0) u9 := by rw [hu9]; exact zt_Gle (by omega) (zt_G_pair _ gu1)
        obtain ⟨r12, hr12⟩ : ∃ z, z = (zt_read u9 ((ztg_cpp u1) + r10)).1 := ⟨_, rfl⟩
        obtain ⟨u11, hu11⟩ : ∃ z, z = (zt_read u9 ((ztg_cpp u1) + r10)).2 := ⟨_, rfl⟩
        have gu11 : ZtG w0 (n + 0) u11 := by rw [hu11]; exact zt_Gle (by omega) (zt_G_read _ gu9)
        obtain ⟨r14, hr14⟩ : ∃ z, z = (zt_push u11 r12 3 8).1 := ⟨_, rfl⟩
        obtain ⟨u13, hu13⟩ : ∃ z, z = (zt_push u11 r12 3 8).2 := ⟨_, rfl⟩
        have gu13 : ZtG w0 (n + 1) u13 := by rw [hu13]; exact zt_Gle (by omega) (zt_G_push _ _ _ (by omega) gu11)
        have eq9 : zt_perform u a1 = (r14, u13) := by subst hu13 hr14 hu11 hr12 hu9 hr10 hu1; first | (unfold zt_perform; rw [if_neg e2, if_neg e5, if_pos e14]; done) | exact (if_neg e2).trans ((if_neg e5).trans ((if_pos e14).trans (rfl)))
        rw [eq9]; exact zt_Gle (by omega) gu13
      · by_cases e26 : a1 = 21
        · obtain ⟨r17, hr17⟩ : ∃ z, z = (zt_byteAt u1 ((ztg_pc u1) + 1)).1 := ⟨_, rfl⟩
          obtain ⟨u16, hu16⟩ : ∃ z, z = (zt_byteAt u1 ((ztg_pc u1) + 1)).2 := ⟨_, rfl⟩
          have gu16 : ZtG w0 (n + 0) u16 := by rw [hu16]; exact zt_Gle (by omega) (zt_G_byteAt _ gu1)
          obtain ⟨r19, hr19⟩ : ∃ z, z = (zt_read u16 ((ztg_lv u1) + r17)).1 := ⟨_, rfl⟩
          obtain ⟨u18, hu18⟩ : ∃ z, z = (zt_read u16 ((ztg_lv u1) + r17)).2 := ⟨_, rfl⟩
          have gu18 : ZtG w0 (n + 0) u18 := by rw [hu18]; exact zt_Gle (by omega) (zt_G_read _ gu16)
          obtain ⟨r21, hr21⟩ : ∃ z, z = (zt_push u18 r19 2 6).1 := ⟨_, rfl⟩
          obtain ⟨u20, hu20⟩ : ∃ z, z = (zt_push u18 r19 2 6).2 := ⟨_, rfl⟩
          have gu20 : ZtG w0 (n + 1) u20 := by rw [hu20]; exact zt_Gle (by omega) (zt_G_push _ _ _ (by omega) gu18)
          have eq9 : zt_perform u a1 = (r21, u20) := by subst hu20 hr21 hu18 hr19 hu16 hr17 hu1; first | (unfold zt_perform; rw [if_neg e2, if_neg e5, if_neg e14, if_pos e26]; done) | exact (if_neg e2).trans ((if_neg e5).trans ((if_neg e14).trans ((if_pos e26).trans (rfl))))
          rw [eq9]; exact zt_Gle (by omega) gu20
        · by_cases e38 : a1 = 54
          · obtain ⟨r24, hr24⟩ : ∃ z, z = (zt_byteAt u1 ((ztg_pc u1) + 1)).1 := ⟨_, rfl⟩
            obtain ⟨u23, hu23⟩ : ∃ z, z = (zt_byteAt u1 ((ztg_pc u1) + 1)).2 := ⟨_, rfl⟩
            have gu23 : ZtG w0 (n + 0) u23 := by rw [hu23]; exact zt_Gle (by omega) (zt_G_byteAt _ gu1)
            obtain ⟨r26, hr26⟩ : ∃ z, z = (zt_store u23 ((ztg_lv u1) + r24) 2 7).1 := ⟨_, rfl⟩
            obtain ⟨u25, hu25⟩ : ∃ z, z = (zt_store u23 ((ztg_lv u1) + r24) 2 7).2 := ⟨_, rfl⟩
            have gu25 : ZtG w0 (n + 1) u25 := by rw [hu25]; exact zt_Gle (by omega) (zt_G_store _ _ _ (by omega) gu23)
            have eq9 : zt_perform u a1 = (r26, u25) := by subst hu25 hr26 hu23 hr24 hu1; first | (unfold zt_perform; rw [if_neg e2, if_neg e5, if_neg e14, if_neg e26, if_pos e38]; done) | exact (if_neg e2).trans ((if_neg e5).trans ((if_neg e14).trans ((if_neg e26).trans ((if_pos e38).trans (rfl)))))
            rw [eq9]; exact zt_Gle (by omega) gu25
          · by_cases e47 : a1 = 87
            · obtain ⟨u28, hu28⟩ : ∃ z, z = zts_sp u1 ((ztg_sp u1) - 1) := ⟨_, rfl⟩
              have gu28 : ZtG w0 (n + 0) u28 := by rw [hu28]; exact zt_Gs_sp _ gu1
              obtain ⟨r30, hr30⟩ : ∃ z, z = (zt_read u28 (ztg_sp u28)).1 := ⟨_, rfl⟩
              obtain ⟨u29, hu29⟩ : ∃ z, z = (zt_read u28 (ztg_sp u28)).2 := ⟨_, rfl⟩
              have gu29 : ZtG w0 (n + 0) u29 := by rw [hu29]; exact zt_Gle (by omega) (zt_G_read _ gu28)
              obtain ⟨u31, hu31⟩ : ∃ z, z = zts_top u29 r30 := ⟨_, rfl⟩
              have gu31 : ZtG w0 (n + 0) u31 := by rw [hu31]; exact zt_Gs_top _ gu29
              have eq9 : zt_perform u a1 = (4, u31) := by subst hu31 hu29 hr30 hu28 hu1; first | (unfold zt_perform; rw [if_neg e2, if_neg e5, if_neg e14, if_neg e26, if_neg e38, if_pos e47]; done) | exact (if_neg e2).trans ((if_neg e5).trans ((if_neg e14).trans ((if_neg e26).trans ((if_neg e38).trans ((if_pos e47).trans (rfl))))))
              rw [eq9]; exact zt_Gle (by omega) gu31
            · by_cases e57 : a1 = 89
              · obtain ⟨r34, hr34⟩ : ∃ z, z = (zt_push u1 (ztg_top u1) 1 3).1 := ⟨_, rfl⟩
                obtain ⟨u33, hu33⟩ : ∃ z, z = (zt_push u1 (ztg_top u1) 1 3).2 := ⟨_, rfl⟩
                have gu33 : ZtG w0 (n + 1) u33 := by rw [hu33]; exact zt_Gle (by omega) (zt_G_push _ _ _ (by omega) gu1)
                have eq9 : zt_perform u a1 = (r34, u33) := by subst hu33 hr34 hu1; first | (unfold zt_perform; rw [if_neg e2, if_neg e5, if_neg e14, if_neg e26, if_neg e38, if_neg e47, if_pos e57]; done) | exact (if_neg e2).trans ((if_neg e5).trans ((if_neg e14).trans ((if_neg e26).trans ((if_neg e38).trans ((if_neg e47).trans ((if_pos e57).trans (rfl)))))))
                rw [eq9]; exact zt_Gle (by omega) gu33
              · by_cases e63 : a1 = 95
                · obtain ⟨r37, hr37⟩ : ∃ z, z = (zt_swap u1).1 := ⟨_, rfl⟩
                  obtain ⟨u36, hu36⟩ : ∃ z, z = (zt_swap u1).2 := ⟨_, rfl⟩
                  have gu36 : ZtG w0 (n + 2) u36 := by rw [hu36]; exact zt_Gle (by omega) (zt_G_swap  (by omega) gu1)
                  have eq9 : zt_perform u a1 = (r37, u36) := by subst hu36 hr37 hu1; first | (unfold zt_perform; rw [if_neg e2, if_neg e5, if_neg e14, if_neg e26, if_neg e38, if_neg e47, if_neg e57, if_pos e63]; done) | exact (if_neg e2).trans ((if_neg e5).trans ((if_neg e14).trans ((if_neg e26).trans ((if_neg e38).trans ((if_neg e47).trans ((if_neg e57).trans ((if_pos e63).trans (rfl))))))))
                  rw [eq9]; exact zt_Gle (by omega) gu36
                · by_cases e69 : a1 = 96
                  · obtain ⟨r40, hr40⟩ : ∃ z, z = (zt_reckon u1 a1).1 := ⟨_, rfl⟩
                    obtain ⟨u39, hu39⟩ : ∃ z, z = (zt_reckon u1 a1).2 := ⟨_, rfl⟩
                    have gu39 : ZtG w0 (n + 1) u39 := by rw [hu39]; exact zt_Gle (by omega) (zt_G_reckon _ (by omega) gu1)
                    have eq9 : zt_perform u a1 = (r40, u39) := by subst hu39 hr40 hu1; first | (unfold zt_perform; rw [if_neg e2, if_neg e5, if_neg e14, if_neg e26, if_neg e38, if_neg e47, if_neg e57, if_neg e63, if_pos e69]; done) | exact (if_neg e2).trans ((if_neg e5).trans ((if_neg e14).trans ((if_neg e26).trans ((if_neg e38).trans ((if_neg e47).trans ((if_neg e57).trans ((if_neg e63).trans ((if_pos e69).trans (rfl)))))))))
                    rw [eq9]; exact zt_Gle (by omega) gu39
                  · by_cases e75 : a1 = 100
                    · obtain ⟨r43, hr43⟩ : ∃ z, z = (zt_reckon u1 a1).1 := ⟨_, rfl⟩
                      obtain ⟨u42, hu42⟩ : ∃ z, z = (zt_reckon u1 a1).2 := ⟨_, rfl⟩
                      have gu42 : ZtG w0 (n + 1) u42 := by rw [hu42]; exact zt_Gle (by omega) (zt_G_reckon _ (by omega) gu1)
                      have eq9 : zt_perform u a1 = (r43, u42) := by subst hu42 hr43 hu1; first | (unfold zt_perform; rw [if_neg e2, if_neg e5, if_neg e14, if_neg e26, if_neg e38, if_neg e47, if_neg e57, if_neg e63, if_neg e69, if_pos e75]; done) | exact (if_neg e2).trans ((if_neg e5).trans ((if_neg e14).trans ((if_neg e26).trans ((if_neg e38).trans ((if_neg e47).trans ((if_neg e57).trans ((if_neg e63).trans ((if_neg e69).trans ((if_pos e75).trans (rfl))))))))))
                      rw [eq9]; exact zt_Gle (by omega) gu42
                    · by_cases e81 : a1 = 126
                      · obtain ⟨r46, hr46⟩ : ∃ z, z = (zt_reckon u1 a1).1 := ⟨_, rfl⟩
                        obtain ⟨u45, hu45⟩ : ∃ z, z = (zt_reckon u1 a1).2 := ⟨_, rfl⟩
                        have gu45 : ZtG w0 (n + 1) u45 := by rw [hu45]; exact zt_Gle (by omega) (zt_G_reckon _ (by omega) gu1)
                        have eq9 : zt_perform u a1 = (r46, u45) := by subst hu45 hr46 hu1; first | (unfold zt_perform; rw [if_neg e2, if_neg e5, if_neg e14, if_neg e26, if_neg e38, if_neg e47, if_neg e57, if_neg e63, if_neg e69, if_neg e75, if_pos e81]; done) | exact (if_neg e2).trans ((if_neg e5).trans ((if_neg e14).trans ((if_neg e26).trans ((if_neg e38).trans ((if_neg e47).trans ((if_neg e57).trans ((if_neg e63).trans ((if_neg e69).trans ((if_neg e75).trans ((if_pos e81).trans (rfl)))))))))))
                        rw [eq9]; exact zt_Gle (by omega) gu45
                      · by_cases e87 : a1 = 128
                        · obtain ⟨r49, hr49⟩ : ∃ z, z = (zt_reckon u1 a1).1 := ⟨_, rfl⟩
                          obtain ⟨u48, hu48⟩ : ∃ z, z = (zt_reckon u1 a1).2 := ⟨_, rfl⟩
                          have gu48 : ZtG w0 (n + 1) u48 := by rw [hu48]; exact zt_Gle (by omega) (zt_G_reckon _ (by omega) gu1)
                          have eq9 : zt_perform u a1 = (r49, u48) := by subst hu48 hr49 hu1; first | (unfold zt_perform; rw [if_neg e2, if_neg e5, if_neg e14, if_neg e26, if_neg e38, if_neg e47, if_neg e57, if_neg e63, if_neg e69, if_neg e75, if_neg e81, if_pos e87]; done) | exact (if_neg e2).trans ((if_neg e5).trans ((if_neg e14).trans ((if_neg e26).trans ((if_neg e38).trans ((if_neg e47).trans ((if_neg e57).trans ((if_neg e63).trans ((if_neg e69).trans ((if_neg e75).trans ((if_neg e81).trans ((if_pos e87).trans (rfl))))))))))))
                          rw [eq9]; exact zt_Gle (by omega) gu48
                        · by_cases e93 : a1 = 132
                          · obtain ⟨r52, hr52⟩ : ∃ z, z = (zt_increase u1).1 := ⟨_, rfl⟩
                            obtain ⟨u51, hu51⟩ : ∃ z, z = (zt_increase u1).2 := ⟨_, rfl⟩
                            have gu51 : ZtG w0 (n + 1) u51 := by rw [hu51]; exact zt_Gle (by omega) (zt_G_increase  (by omega) gu1)
                            have eq9 : zt_perform u a1 = (r52, u51) := by subst hu51 hr52 hu1; first | (unfold zt_perform; rw [if_neg e2, if_neg e5, if_neg e14, if_neg e26, if_neg e38, if_neg e47, if_neg e57, if_neg e63, if_neg e69, if_neg e75, if_neg e81, if_neg e87, if_pos e93]; done) | exact (if_neg e2).trans ((if_neg e5).trans ((if_neg e14).trans ((if_neg e26).trans ((if_neg e38).trans ((if_neg e47).trans ((if_neg e57).trans ((if_neg e63).trans ((if_neg e69).trans ((if_neg e75).trans ((if_neg e81).trans ((if_neg e87).trans ((if_pos e93).trans (rfl)))))))))))))
                            rw [eq9]; exact zt_Gle (by omega) gu51
                          · by_cases e99 : a1 = 153
                            · obtain ⟨r55, hr55⟩ : ∃ z, z = (zt_ifs u1 a1).1 := ⟨_, rfl⟩
                              obtain ⟨u54, hu54⟩ : ∃ z, z = (zt_ifs u1 a1).2 := ⟨_, rfl⟩
                              have gu54 : ZtG w0 (n + 0) u54 := by rw [hu54]; exact zt_Gle (by omega) (zt_G_ifs _ gu1)
                              have eq9 : zt_perform u a1 = (r55, u54) := by subst hu54 hr55 hu1; first | (unfold zt_perform; rw [if_neg e2, if_neg e5, if_neg e14, if_neg e26, if_neg e38, if_neg e47, if_neg e57, if_neg e63, if_neg e69, if_neg e75, if_neg e81, if_neg e87, if_neg e93, if_pos e99]; done) | exact (if_neg e2).trans ((if_neg e5).trans ((if_neg e14).trans ((if_neg e26).trans ((if_neg e38).trans ((if_neg e47).trans ((if_neg e57).trans ((if_neg e63).trans ((if_neg e69).trans ((if_neg e75).trans ((if_neg e81).trans ((if_neg e87).trans ((if_neg e93).trans ((if_pos e99).trans (rfl))))))))))))))
                              rw [eq9]; exact zt_Gle (by omega) gu54
                            · by_cases e105 : a1 = 155
                              · obtain ⟨r58, hr58⟩ : ∃ z, z = (zt_ifs u1 a1).1 := ⟨_, rfl⟩
                                obtain ⟨u57, hu57⟩ : ∃ z, z = (zt_ifs u1 a1).2 := ⟨_, rfl⟩
                                have gu57 : ZtG w0 (n + 0) u57 := by rw [hu57]; exact zt_Gle (by omega) (zt_G_ifs _ gu1)
                                have eq9 : zt_perform u a1 = (r58, u57) := by subst hu57 hr58 hu1; first | (unfold zt_perform; rw [if_neg e2, if_neg e5, if_neg e14, if_neg e26, if_neg e38, if_neg e47, if_neg e57, if_neg e63, if_neg e69, if_neg e75, if_neg e81, if_neg e87, if_neg e93, if_neg e99, if_pos e105]; done) | exact (if_neg e2).trans ((if_neg e5).trans ((if_neg e14).trans ((if_neg e26).trans ((if_neg e38).trans ((if_neg e47).trans ((if_neg e57).trans ((if_neg e63).trans ((if_neg e69).trans ((if_neg e75).trans ((if_neg e81).trans ((if_neg e87).trans ((if_neg e93).trans ((if_neg e99).trans ((if_pos e105).trans (rfl)))))))))))))))
                                rw [eq9]; exact zt_Gle (by omega) gu57
                              · by_cases e111 : a1 = 159
                                · obtain ⟨r61, hr61⟩ : ∃ z, z = (zt_ifs u1 a1).1 := ⟨_, rfl⟩
                                  obtain ⟨u60, hu60⟩ : ∃ z, z = (zt_ifs u1 a1).2 := ⟨_, rfl⟩
                                  have gu60 : ZtG w0 (n + 0) u60 := by rw [hu60]; exact zt_Gle (by omega) (zt_G_ifs _ gu1)
                                  have eq9 : zt_perform u a1 = (r61, u60) := by subst hu60 hr61 hu1; first | (unfold zt_perform; rw [if_neg e2, if_neg e5, if_neg e14, if_neg e26, if_neg e38, if_neg e47, if_neg e57, if_neg e63, if_neg e69, if_neg e75, if_neg e81, if_neg e87, if_neg e93, if_neg e99, if_neg e105, if_pos e111]; done) | exact (if_neg e2).trans ((if_neg e5).trans ((if_neg e14).trans ((if_neg e26).trans ((if_neg e38).trans ((if_neg e47).trans ((if_neg e57).trans ((if_neg e63).trans ((if_neg e69).trans ((if_neg e75).trans ((if_neg e81).trans ((if_neg e87).trans ((if_neg e93).trans ((if_neg e99).trans ((if_neg e105).trans ((if_pos e111).trans (rfl))))))))))))))))
                                  rw [eq9]; exact zt_Gle (by omega) gu60
                                · by_cases e117 : a1 = 167
                                  · obtain ⟨r64, hr64⟩ : ∃ z, z = (zt_jump u1 1 7 7).1 := ⟨_, rfl⟩
                                    obtain ⟨u63, hu63⟩ : ∃ z, z = (zt_jump u1 1 7 7).2 := ⟨_, rfl⟩
                                    have gu63 : ZtG w0 (n + 0) u63 := by rw [hu63]; exact zt_Gle (by omega) (zt_G_jump _ _ _ gu1)
                                    have eq9 : zt_perform u a1 = (r64, u63) := by subst hu63 hr64 hu1; first | (unfold zt_perform; rw [if_neg e2, if_neg e5, if_neg e14, if_neg e26, if_neg e38, if_neg e47, if_neg e57, if_neg e63, if_neg e69, if_neg e75, if_neg e81, if_neg e87, if_neg e93, if_neg e99, if_neg e105, if_neg e111, if_pos e117]; done) | exact (if_neg e2).trans ((if_neg e5).trans ((if_neg e14).trans ((if_neg e26).trans ((if_neg e38).trans ((if_neg e47).trans ((if_neg e57).trans ((if_neg e63).trans ((if_neg e69).trans ((if_neg e75).trans ((if_neg e81).trans ((if_neg e87).trans ((if_neg e93).trans ((if_neg e99).trans ((if_neg e105).trans ((if_neg e111).trans ((if_pos e117).trans (rfl)))))))))))))))))
                                    rw [eq9]; exact zt_Gle (by omega) gu63
                                  · by_cases e123 : a1 = 172
                                    · obtain ⟨r67, hr67⟩ : ∃ z, z = (zt_giveBack u1).1 := ⟨_, rfl⟩
                                      obtain ⟨u66, hu66⟩ : ∃ z, z = (zt_giveBack u1).2 := ⟨_, rfl⟩
                                      have gu66 : ZtG w0 (n + 1) u66 := by rw [hu66]; exact zt_Gle (by omega) (zt_G_giveBack  (by omega) gu1)
                                      have eq9 : zt_perform u a1 = (r67, u66) := by subst hu66 hr67 hu1; first | (unfold zt_perform; rw [if_neg e2, if_neg e5, if_neg e14, if_neg e26, if_neg e38, if_neg e47, if_neg e57, if_neg e63, if_neg e69, if_neg e75, if_neg e81, if_neg e87, if_neg e93, if_neg e99, if_neg e105, if_neg e111, if_neg e117, if_pos e123]; done) | exact (if_neg e2).trans ((if_neg e5).trans ((if_neg e14).trans ((if_neg e26).trans ((if_neg e38).trans ((if_neg e47).trans ((if_neg e57).trans ((if_neg e63).trans ((if_neg e69).trans ((if_neg e75).trans ((if_neg e81).trans ((if_neg e87).trans ((if_neg e93).trans ((if_neg e99).trans ((if_neg e105).trans ((if_neg e111).trans ((if_neg e117).trans ((if_pos e123).trans (rfl))))))))))))))))))
                                      rw [eq9]; exact zt_Gle (by omega) gu66
                                    · by_cases e129 : a1 = 182
                                      · obtain ⟨r70, hr70⟩ : ∃ z, z = (zt_call u1).1 := ⟨_, rfl⟩
                                        obtain ⟨u69, hu69⟩ : ∃ z, z = (zt_call u1).2 := ⟨_, rfl⟩
                                        have gu69 : ZtG w0 (n + 3) u69 := by rw [hu69]; exact zt_Gle (by omega) (zt_G_call  (by omega) gu1)
                                        have eq9 : zt_perform u a1 = (r70, u69) := by subst hu69 hr70 hu1; first | (unfold zt_perform; rw [if_neg e2, if_neg e5, if_neg e14, if_neg e26, if_neg e38, if_neg e47, if_neg e57, if_neg e63, if_neg e69, if_neg e75, if_neg e81, if_neg e87, if_neg e93, if_neg e99, if_neg e105, if_neg e111, if_neg e117, if_neg e123, if_pos e129]; done) | exact (if_neg e2).trans ((if_neg e5).trans ((if_neg e14).trans ((if_neg e26).trans ((if_neg e38).trans ((if_neg e47).trans ((if_neg e57).trans ((if_neg e63).trans ((if_neg e69).trans ((if_neg e75).trans ((if_neg e81).trans ((if_neg e87).trans ((if_neg e93).trans ((if_neg e99).trans ((if_neg e105).trans ((if_neg e111).trans ((if_neg e117).trans ((if_neg e123).trans ((if_pos e129).trans (rfl)))))))))))))))))))
                                        rw [eq9]; exact zt_Gle (by omega) gu69
                                      · by_cases e135 : a1 = 196
                                        · obtain ⟨r73, hr73⟩ : ∃ z, z = (zt_wide u1).1 := ⟨_, rfl⟩
                                          obtain ⟨u72, hu72⟩ : ∃ z, z = (zt_wide u1).2 := ⟨_, rfl⟩
                                          have gu72 : ZtG w0 (n + 1) u72 := by rw [hu72]; exact zt_Gle (by omega) (zt_G_wide  (by omega) gu1)
                                          have eq9 : zt_perform u a1 = (r73, u72) := by subst hu72 hr73 hu1; first | (unfold zt_perform; rw [if_neg e2, if_neg e5, if_neg e14, if_neg e26, if_neg e38, if_neg e47, if_neg e57, if_neg e63, if_neg e69, if_neg e75, if_neg e81, if_neg e87, if_neg e93, if_neg e99, if_neg e105, if_neg e111, if_neg e117, if_neg e123, if_neg e129, if_pos e135]; done) | exact (if_neg e2).trans ((if_neg e5).trans ((if_neg e14).trans ((if_neg e26).trans ((if_neg e38).trans ((if_neg e47).trans ((if_neg e57).trans ((if_neg e63).trans ((if_neg e69).trans ((if_neg e75).trans ((if_neg e81).trans ((if_neg e87).trans ((if_neg e93).trans ((if_neg e99).trans ((if_neg e105).trans ((if_neg e111).trans ((if_neg e117).trans ((if_neg e123).trans ((if_neg e129).trans ((if_pos e135).trans (rfl))))))))))))))))))))
                                          rw [eq9]; exact zt_Gle (by omega) gu72
                                        · by_cases e141 : a1 = 255
                                          · obtain ⟨u75, hu75⟩ : ∃ z, z = zts_next u1 (ztg_pc u1) := ⟨_, rfl⟩
                                            have gu75 : ZtG w0 (n + 0) u75 := by rw [hu75]; exact zt_Gs_next _ gu1
                                            have eq9 : zt_perform u a1 = (2, u75) := by subst hu75 hu1; first | (unfold zt_perform; rw [if_neg e2, if_neg e5, if_neg e14, if_neg e26, if_neg e38, if_neg e47, if_neg e57, if_neg e63, if_neg e69, if_neg e75, if_neg e81, if_neg e87, if_neg e93, if_neg e99, if_neg e105, if_neg e111, if_neg e117, if_neg e123, if_neg e129, if_neg e135, if_pos e141]; done) | exact (if_neg e2).trans ((if_neg e5).trans ((if_neg e14).trans ((if_neg e26).trans ((if_neg e38).trans ((if_neg e47).trans ((if_neg e57).trans ((if_neg e63).trans ((if_neg e69).trans ((if_neg e75).trans ((if_neg e81).trans ((if_neg e87).trans ((if_neg e93).trans ((if_neg e99).trans ((if_neg e105).trans ((if_neg e111).trans ((if_neg e117).trans ((if_neg e123).trans ((if_neg e129).trans ((if_neg e135).trans ((if_pos e141).trans (rfl)))))))))))))))))))))
                                            rw [eq9]; exact zt_Gle (by omega) gu75
                                          · obtain ⟨u76, hu76⟩ : ∃ z, z = zts_unknown u1 1 := ⟨_, rfl⟩
                                            have gu76 : ZtG w0 (n + 0) u76 := by rw [hu76]; exact zt_Gs_unknown _ gu1
                                            have eq9 : zt_perform u a1 = (0, u76) := by subst hu76 hu1; first | (unfold zt_perform; rw [if_neg e2, if_neg e5, if_neg e14, if_neg e26, if_neg e38, if_neg e47, if_neg e57, if_neg e63, if_neg e69, if_neg e75, if_neg e81, if_neg e87, if_neg e93, if_neg e99, if_neg e105, if_neg e111, if_neg e117, if_neg e123, if_neg e129, if_neg e135, if_neg e141]; done) | exact (if_neg e2).trans ((if_neg e5).trans ((if_neg e14).trans ((if_neg e26).trans ((if_neg e38).trans ((if_neg e47).trans ((if_neg e57).trans ((if_neg e63).trans ((if_neg e69).trans ((if_neg e75).trans ((if_neg e81).trans ((if_neg e87).trans ((if_neg e93).trans ((if_neg e99).trans ((if_neg e105).trans ((if_neg e111).trans ((if_neg e117).trans ((if_neg e123).trans ((if_neg e129).trans ((if_neg e135).trans ((if_neg e141).trans (rfl)))))))))))))))))))))
                                            rw [eq9]; exact zt_Gle (by omega) gu76

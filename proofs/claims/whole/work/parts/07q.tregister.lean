def zt_register (u : Zts) (a1 : Int32) : Int32 × Zts :=
  if a1 < 0 then (
    let u2 := zts_thrown u 1
    if a1 = 0 then (
      (ztg_pc u2, u2))
    else (
      if a1 = 1 then (
        (ztg_sp u2, u2))
      else (
        if a1 = 2 then (
          (ztg_lv u2, u2))
        else (
          if a1 = 3 then (
            (ztg_cpp u2, u2))
          else (
            if a1 = 4 then (
              (ztg_top u2, u2))
            else (
              if a1 = 5 then (
                (ztg_state u2, u2))
              else (
                if a1 = 6 then (
                  (ztg_cycles u2, u2))
                else (
                  if a1 = 7 then (
                    (ztg_done u2, u2))
                  else (
                    (0, u2))))))))))
  else (
    if a1 ≤ 7 then (
      let u12 := zts_thrown u 0
      if a1 = 0 then (
        (ztg_pc u12, u12))
      else (
        if a1 = 1 then (
          (ztg_sp u12, u12))
        else (
          if a1 = 2 then (
            (ztg_lv u12, u12))
          else (
            if a1 = 3 then (
              (ztg_cpp u12, u12))
            else (
              if a1 = 4 then (
                (ztg_top u12, u12))
              else (
                if a1 = 5 then (
                  (ztg_state u12, u12))
                else (
                  if a1 = 6 then (
                    (ztg_cycles u12, u12))
                  else (
                    if a1 = 7 then (
                      (ztg_done u12, u12))
                    else (
                      (0, u12))))))))))
    else (
      let u21 := zts_thrown u 1
      if a1 = 0 then (
        (ztg_pc u21, u21))
      else (
        if a1 = 1 then (
          (ztg_sp u21, u21))
        else (
          if a1 = 2 then (
            (ztg_lv u21, u21))
          else (
            if a1 = 3 then (
              (ztg_cpp u21, u21))
            else (
              if a1 = 4 then (
                (ztg_top u21, u21))
              else (
                if a1 = 5 then (
                  (ztg_state u21, u21))
                else (
                  if a1 = 6 then (
                    (ztg_cycles u21, u21))
                  else (
                    if a1 = 7 then (
                      (ztg_done u21, u21))
                    else (
                      (0, u21)))))))))))
set_option maxHeartbeats 4000000 in
set_option maxRecDepth 100000 in
theorem ztM_register (l : Launch) (k : Ztk) (Dk : ZtD k) (u : Zts) (a1 : Int32) : Met l yX1_register (.code yX1_register cX1_register 2 (some .int) :: zwT) (zrm 0) (ZtB k [.ref (zta_this k), .int a1] u) (ZtQ k (some (.int (zt_register u a1).1)) (zt_register u a1).2) 0 0 (ZtA k) := by
  refine ztE_in (by decide) rfl (Nat.le_of_ble_eq_true rfl) Dk ?_
  intro p e s m below meth c ls C hr hlk hP hl
  have hx := C.1.1
  have hb := C.1.2.1
  have hl : lv_has ls 2 [(0, .ref (zta_this k)), (1, .int a1)] := hl
  have hS : va_S (ZtA k) s.heap s.heap [] := va_S.rf
  refine lv_aload_n hx hb dX1_register_0 rfl (lv_at hl 0 rfl) ?_
  refine lv_iload_n hx hb dX1_register_1 rfl (lv_at hl 1 rfl) ?_
  refine lv_if_lt (tgt := 11) hx hb dX1_register_2 (by decide) (fun c1 => ?_) (fun c1 => ?_)
  · refine lv_iconst (v := 1) hx hb dX1_register_11 (by decide) ?_
    refine lv_goto (tgt := 16) hx hb dX1_register_12 (by decide) ?_
    refine ztP_thrown C hP hS dX1_register_16 (fun u2 H locs hu2 hP hS => ?_)
    refine lv_iload_n hx hb dX1_register_19 rfl (lv_at hl 1 rfl) ?_
    by_cases c3 : a1 = 0
    · refine lv_tableIn (off := 48) (tgt := 68) hx hb dX1_register_20 (by rw [c3]; decide) (by rw [c3]; decide) (by rw [c3]; decide) (by decide) ?_
      refine lv_aload_n hx hb dX1_register_68 rfl (lv_at hl 0 rfl) ?_
      refine ztG_pc C hP dX1_register_69 ?_
      exact zt_iret C hr hlk hP hS (by subst hu2; first | (unfold zt_register; rw [if_pos c1, if_pos c3]; done) | exact (if_pos c1).trans ((if_pos c3).trans (rfl))) dX1_register_72
    · skip
      by_cases c4 : a1 = 1
      · refine lv_tableIn (off := 53) (tgt := 73) hx hb dX1_register_20 (by rw [c4]; decide) (by rw [c4]; decide) (by rw [c4]; decide) (by decide) ?_
        refine lv_aload_n hx hb dX1_register_73 rfl (lv_at hl 0 rfl) ?_
        refine ztG_sp C hP dX1_register_74 ?_
        exact zt_iret C hr hlk hP hS (by subst hu2; first | (unfold zt_register; rw [if_pos c1, if_neg c3, if_pos c4]; done) | exact (if_pos c1).trans ((if_neg c3).trans ((if_pos c4).trans (rfl)))) dX1_register_77
      · skip
        by_cases c5 : a1 = 2
        · refine lv_tableIn (off := 58) (tgt := 78) hx hb dX1_register_20 (by rw [c5]; decide) (by rw [c5]; decide) (by rw [c5]; decide) (by decide) ?_
          refine lv_aload_n hx hb dX1_register_78 rfl (lv_at hl 0 rfl) ?_
          refine ztG_lv C hP dX1_register_79 ?_
          exact zt_iret C hr hlk hP hS (by subst hu2; first | (unfold zt_register; rw [if_pos c1, if_neg c3, if_neg c4, if_pos c5]; done) | exact (if_pos c1).trans ((if_neg c3).trans ((if_neg c4).trans ((if_pos c5).trans (rfl))))) dX1_register_82
        · skip
          by_cases c6 : a1 = 3
          · refine lv_tableIn (off := 63) (tgt := 83) hx hb dX1_register_20 (by rw [c6]; decide) (by rw [c6]; decide) (by rw [c6]; decide) (by decide) ?_
            refine lv_aload_n hx hb dX1_register_83 rfl (lv_at hl 0 rfl) ?_
            refine ztG_cpp C hP dX1_register_84 ?_
            exact zt_iret C hr hlk hP hS (by subst hu2; first | (unfold zt_register; rw [if_pos c1, if_neg c3, if_neg c4, if_neg c5, if_pos c6]; done) | exact (if_pos c1).trans ((if_neg c3).trans ((if_neg c4).trans ((if_neg c5).trans ((if_pos c6).trans (rfl)))))) dX1_register_87
          · skip
            by_cases c7 : a1 = 4
            · refine lv_tableIn (off := 68) (tgt := 88) hx hb dX1_register_20 (by rw [c7]; decide) (by rw [c7]; decide) (by rw [c7]; decide) (by decide) ?_
              refine lv_aload_n hx hb dX1_register_88 rfl (lv_at hl 0 rfl) ?_
              refine ztG_top C hP dX1_register_89 ?_
              exact zt_iret C hr hlk hP hS (by subst hu2; first | (unfold zt_register; rw [if_pos c1, if_neg c3, if_neg c4, if_neg c5, if_neg c6, if_pos c7]; done) | exact (if_pos c1).trans ((if_neg c3).trans ((if_neg c4).trans ((if_neg c5).trans ((if_neg c6).trans ((if_pos c7).trans (rfl))))))) dX1_register_92
            · skip
              by_cases c8 : a1 = 5
              · refine lv_tableIn (off := 73) (tgt := 93) hx hb dX1_register_20 (by rw [c8]; decide) (by rw [c8]; decide) (by rw [c8]; decide) (by decide) ?_
                refine lv_aload_n hx hb dX1_register_93 rfl (lv_at hl 0 rfl) ?_
                refine ztG_state C hP dX1_register_94 ?_
                exact zt_iret C hr hlk hP hS (by subst hu2; first | (unfold zt_register; rw [if_pos c1, if_neg c3, if_neg c4, if_neg c5, if_neg c6, if_neg c7, if_pos c8]; done) | exact (if_pos c1).trans ((if_neg c3).trans ((if_neg c4).trans ((if_neg c5).trans ((if_neg c6).trans ((if_neg c7).trans ((if_pos c8).trans (rfl)))))))) dX1_register_97
              · skip
                by_cases c9 : a1 = 6
                · refine lv_tableIn (off := 78) (tgt := 98) hx hb dX1_register_20 (by rw [c9]; decide) (by rw [c9]; decide) (by rw [c9]; decide) (by decide) ?_
                  refine lv_aload_n hx hb dX1_register_98 rfl (lv_at hl 0 rfl) ?_
                  refine ztG_cycles C hP dX1_register_99 ?_
                  exact zt_iret C hr hlk hP hS (by subst hu2; first | (unfold zt_register; rw [if_pos c1, if_neg c3, if_neg c4, if_neg c5, if_neg c6, if_neg c7, if_neg c8, if_pos c9]; done) | exact (if_pos c1).trans ((if_neg c3).trans ((if_neg c4).trans ((if_neg c5).trans ((if_neg c6).trans ((if_neg c7).trans ((if_neg c8).trans ((if_pos c9).trans (rfl))))))))) dX1_register_102
                · skip
                  by_cases c10 : a1 = 7
                  · refine lv_tableIn (off := 83) (tgt := 103) hx hb dX1_register_20 (by rw [c10]; decide) (by rw [c10]; decide) (by rw [c10]; decide) (by decide) ?_
                    refine lv_aload_n hx hb dX1_register_103 rfl (lv_at hl 0 rfl) ?_
                    refine ztG_done C hP dX1_register_104 ?_
                    exact zt_iret C hr hlk hP hS (by subst hu2; first | (unfold zt_register; rw [if_pos c1, if_neg c3, if_neg c4, if_neg c5, if_neg c6, if_neg c7, if_neg c8, if_neg c9, if_pos c10]; done) | exact (if_pos c1).trans ((if_neg c3).trans ((if_neg c4).trans ((if_neg c5).trans ((if_neg c6).trans ((if_neg c7).trans ((if_neg c8).trans ((if_neg c9).trans ((if_pos c10).trans (rfl)))))))))) dX1_register_107
                  · skip
                    refine lv_tableOut (tgt := 108) hx hb dX1_register_20 (by have qc3 := lv_neT c3 (show (0 : Int32).toInt = 0 from rfl); have qc4 := lv_neT c4 (show (1 : Int32).toInt = 1 from rfl); have qc5 := lv_neT c5 (show (2 : Int32).toInt = 2 from rfl); have qc6 := lv_neT c6 (show (3 : Int32).toInt = 3 from rfl); have qc7 := lv_neT c7 (show (4 : Int32).toInt = 4 from rfl); have qc8 := lv_neT c8 (show (5 : Int32).toInt = 5 from rfl); have qc9 := lv_neT c9 (show (6 : Int32).toInt = 6 from rfl); have qc10 := lv_neT c10 (show (7 : Int32).toInt = 7 from rfl); omega) (by decide) ?_
                    refine lv_iconst (v := 0) hx hb dX1_register_108 (by decide) ?_
                    exact zt_iret C hr hlk hP hS (by subst hu2; first | (unfold zt_register; rw [if_pos c1, if_neg c3, if_neg c4, if_neg c5, if_neg c6, if_neg c7, if_neg c8, if_neg c9, if_neg c10]; done) | exact (if_pos c1).trans ((if_neg c3).trans ((if_neg c4).trans ((if_neg c5).trans ((if_neg c6).trans ((if_neg c7).trans ((if_neg c8).trans ((if_neg c9).trans ((if_neg c10).trans (rfl)))))))))) dX1_register_109
  · refine lv_iload_n hx hb dX1_register_5 rfl (lv_at hl 1 rfl) ?_
    refine lv_bipush (v := 7) hx hb dX1_register_6 (by decide) ?_
    refine lv_icmp_le (tgt := 15) hx hb dX1_register_8 (by decide) (fun c11 => ?_) (fun c11 => ?_)
    · refine lv_iconst (v := 0) hx hb dX1_register_15 (by decide) ?_
      refine ztP_thrown C hP hS dX1_register_16 (fun u12 H locs hu12 hP hS => ?_)
      refine lv_iload_n hx hb dX1_register_19 rfl (lv_at hl 1 rfl) ?_
      by_cases c13 : a1 = 0
      · refine lv_tableIn (off := 48) (tgt := 68) hx hb dX1_register_20 (by rw [c13]; decide) (by rw [c13]; decide) (by rw [c13]; decide) (by decide) ?_
        refine lv_aload_n hx hb dX1_register_68 rfl (lv_at hl 0 rfl) ?_
        refine ztG_pc C hP dX1_register_69 ?_
        exact zt_iret C hr hlk hP hS (by subst hu12; first | (unfold zt_register; rw [if_neg c1, if_pos c11, if_pos c13]; done) | exact (if_neg c1).trans ((if_pos c11).trans ((if_pos c13).trans (rfl)))) dX1_register_72
      · skip
        by_cases c14 : a1 = 1
        · refine lv_tableIn (off := 53) (tgt := 73) hx hb dX1_register_20 (by rw [c14]; decide) (by rw [c14]; decide) (by rw [c14]; decide) (by decide) ?_
          refine lv_aload_n hx hb dX1_register_73 rfl (lv_at hl 0 rfl) ?_
          refine ztG_sp C hP dX1_register_74 ?_
          exact zt_iret C hr hlk hP hS (by subst hu12; first | (unfold zt_register; rw [if_neg c1, if_pos c11, if_neg c13, if_pos c14]; done) | exact (if_neg c1).trans ((if_pos c11).trans ((if_neg c13).trans ((if_pos c14).trans (rfl))))) dX1_register_77
        · skip
          by_cases c15 : a1 = 2
          · refine lv_tableIn (off := 58) (tgt := 78) hx hb dX1_register_20 (by rw [c15]; decide) (by rw [c15]; decide) (by rw [c15]; decide) (by decide) ?_
            refine lv_aload_n hx hb dX1_register_78 rfl (lv_at hl 0 rfl) ?_
            refine ztG_lv C hP dX1_register_79 ?_
            exact zt_iret C hr hlk hP hS (by subst hu12; first | (unfold zt_register; rw [if_neg c1, if_pos c11, if_neg c13, if_neg c14, if_pos c15]; done) | exact (if_neg c1).trans ((if_pos c11).trans ((if_neg c13).trans ((if_neg c14).trans ((if_pos c15).trans (rfl)))))) dX1_register_82
          · skip
            by_cases c16 : a1 = 3
            · refine lv_tableIn (off := 63) (tgt := 83) hx hb dX1_register_20 (by rw [c16]; decide) (by rw [c16]; decide) (by rw [c16]; decide) (by decide) ?_
              refine lv_aload_n hx hb dX1_register_83 rfl (lv_at hl 0 rfl) ?_
              refine ztG_cpp C hP dX1_register_84 ?_
              exact zt_iret C hr hlk hP hS (by subst hu12; first | (unfold zt_register; rw [if_neg c1, if_pos c11, if_neg c13, if_neg c14, if_neg c15, if_pos c16]; done) | exact (if_neg c1).trans ((if_pos c11).trans ((if_neg c13).trans ((if_neg c14).trans ((if_neg c15).trans ((if_pos c16).trans (rfl))))))) dX1_register_87
            · skip
              by_cases c17 : a1 = 4
              · refine lv_tableIn (off := 68) (tgt := 88) hx hb dX1_register_20 (by rw [c17]; decide) (by rw [c17]; decide) (by rw [c17]; decide) (by decide) ?_
                refine lv_aload_n hx hb dX1_register_88 rfl (lv_at hl 0 rfl) ?_
                refine ztG_top C hP dX1_register_89 ?_
                exact zt_iret C hr hlk hP hS (by subst hu12; first | (unfold zt_register; rw [if_neg c1, if_pos c11, if_neg c13, if_neg c14, if_neg c15, if_neg c16, if_pos c17]; done) | exact (if_neg c1).trans ((if_pos c11).trans ((if_neg c13).trans ((if_neg c14).trans ((if_neg c15).trans ((if_neg c16).trans ((if_pos c17).trans (rfl)))))))) dX1_register_92
              · skip
                by_cases c18 : a1 = 5
                · refine lv_tableIn (off := 73) (tgt := 93) hx hb dX1_register_20 (by rw [c18]; decide) (by rw [c18]; decide) (by rw [c18]; decide) (by decide) ?_
                  refine lv_aload_n hx hb dX1_register_93 rfl (lv_at hl 0 rfl) ?_
                  refine ztG_state C hP dX1_register_94 ?_
                  exact zt_iret C hr hlk hP hS (by subst hu12; first | (unfold zt_register; rw [if_neg c1, if_pos c11, if_neg c13, if_neg c14, if_neg c15, if_neg c16, if_neg c17, if_pos c18]; done) | exact (if_neg c1).trans ((if_pos c11).trans ((if_neg c13).trans ((if_neg c14).trans ((if_neg c15).trans ((if_neg c16).trans ((if_neg c17).trans ((if_pos c18).trans (rfl))))))))) dX1_register_97
                · skip
                  by_cases c19 : a1 = 6
                  · refine lv_tableIn (off := 78) (tgt := 98) hx hb dX1_register_20 (by rw [c19]; decide) (by rw [c19]; decide) (by rw [c19]; decide) (by decide) ?_
                    refine lv_aload_n hx hb dX1_register_98 rfl (lv_at hl 0 rfl) ?_
                    refine ztG_cycles C hP dX1_register_99 ?_
                    exact zt_iret C hr hlk hP hS (by subst hu12; first | (unfold zt_register; rw [if_neg c1, if_pos c11, if_neg c13, if_neg c14, if_neg c15, if_neg c16, if_neg c17, if_neg c18, if_pos c19]; done) | exact (if_neg c1).trans ((if_pos c11).trans ((if_neg c13).trans ((if_neg c14).trans ((if_neg c15).trans ((if_neg c16).trans ((if_neg c17).trans ((if_neg c18).trans ((if_pos c19).trans (rfl)))))))))) dX1_register_102
                  · skip
                    by_cases c20 : a1 = 7
                    · refine lv_tableIn (off := 83) (tgt := 103) hx hb dX1_register_20 (by rw [c20]; decide) (by rw [c20]; decide) (by rw [c20]; decide) (by decide) ?_
                      refine lv_aload_n hx hb dX1_register_103 rfl (lv_at hl 0 rfl) ?_
                      refine ztG_done C hP dX1_register_104 ?_
                      exact zt_iret C hr hlk hP hS (by subst hu12; first | (unfold zt_register; rw [if_neg c1, if_pos c11, if_neg c13, if_neg c14, if_neg c15, if_neg c16, if_neg c17, if_neg c18, if_neg c19, if_pos c20]; done) | exact (if_neg c1).trans ((if_pos c11).trans ((if_neg c13).trans ((if_neg c14).trans ((if_neg c15).trans ((if_neg c16).trans ((if_neg c17).trans ((if_neg c18).trans ((if_neg c19).trans ((if_pos c20).trans (rfl))))))))))) dX1_register_107
                    · skip
                      refine lv_tableOut (tgt := 108) hx hb dX1_register_20 (by have qc13 := lv_neT c13 (show (0 : Int32).toInt = 0 from rfl); have qc14 := lv_neT c14 (show (1 : Int32).toInt = 1 from rfl); have qc15 := lv_neT c15 (show (2 : Int32).toInt = 2 from rfl); have qc16 := lv_neT c16 (show (3 : Int32).toInt = 3 from rfl); have qc17 := lv_neT c17 (show (4 : Int32).toInt = 4 from rfl); have qc18 := lv_neT c18 (show (5 : Int32).toInt = 5 from rfl); have qc19 := lv_neT c19 (show (6 : Int32).toInt = 6 from rfl); have qc20 := lv_neT c20 (show (7 : Int32).toInt = 7 from rfl); omega) (by decide) ?_
                      refine lv_iconst (v := 0) hx hb dX1_register_108 (by decide) ?_
                      exact zt_iret C hr hlk hP hS (by subst hu12; first | (unfold zt_register; rw [if_neg c1, if_pos c11, if_neg c13, if_neg c14, if_neg c15, if_neg c16, if_neg c17, if_neg c18, if_neg c19, if_neg c20]; done) | exact (if_neg c1).trans ((if_pos c11).trans ((if_neg c13).trans ((if_neg c14).trans ((if_neg c15).trans ((if_neg c16).trans ((if_neg c17).trans ((if_neg c18).trans ((if_neg c19).trans ((if_neg c20).trans (rfl))))))))))) dX1_register_109
    · refine lv_iconst (v := 1) hx hb dX1_register_11 (by decide) ?_
      refine lv_goto (tgt := 16) hx hb dX1_register_12 (by decide) ?_
      refine ztP_thrown C hP hS dX1_register_16 (fun u21 H locs hu21 hP hS => ?_)
      refine lv_iload_n hx hb dX1_register_19 rfl (lv_at hl 1 rfl) ?_
      by_cases c22 : a1 = 0
      · refine lv_tableIn (off := 48) (tgt := 68) hx hb dX1_register_20 (by rw [c22]; decide) (by rw [c22]; decide) (by rw [c22]; decide) (by decide) ?_
        refine lv_aload_n hx hb dX1_register_68 rfl (lv_at hl 0 rfl) ?_
        refine ztG_pc C hP dX1_register_69 ?_
        exact zt_iret C hr hlk hP hS (by subst hu21; first | (unfold zt_register; rw [if_neg c1, if_neg c11, if_pos c22]; done) | exact (if_neg c1).trans ((if_neg c11).trans ((if_pos c22).trans (rfl)))) dX1_register_72
      · skip
        by_cases c23 : a1 = 1
        · refine lv_tableIn (off := 53) (tgt := 73) hx hb dX1_register_20 (by rw [c23]; decide) (by rw [c23]; decide) (by rw [c23]; decide) (by decide) ?_
          refine lv_aload_n hx hb dX1_register_73 rfl (lv_at hl 0 rfl) ?_
          refine ztG_sp C hP dX1_register_74 ?_
          exact zt_iret C hr hlk hP hS (by subst hu21; first | (unfold zt_register; rw [if_neg c1, if_neg c11, if_neg c22, if_pos c23]; done) | exact (if_neg c1).trans ((if_neg c11).trans ((if_neg c22).trans ((if_pos c23).trans (rfl))))) dX1_register_77
        · skip
          by_cases c24 : a1 = 2
          · refine lv_tableIn (off := 58) (tgt := 78) hx hb dX1_register_20 (by rw [c24]; decide) (by rw [c24]; decide) (by rw [c24]; decide) (by decide) ?_
            refine lv_aload_n hx hb dX1_register_78 rfl (lv_at hl 0 rfl) ?_
            refine ztG_lv C hP dX1_register_79 ?_
            exact zt_iret C hr hlk hP hS (by subst hu21; first | (unfold zt_register; rw [if_neg c1, if_neg c11, if_neg c22, if_neg c23, if_pos c24]; done) | exact (if_neg c1).trans ((if_neg c11).trans ((if_neg c22).trans ((if_neg c23).trans ((if_pos c24).trans (rfl)))))) dX1_register_82
          · skip
            by_cases c25 : a1 = 3
            · refine lv_tableIn (off := 63) (tgt := 83) hx hb dX1_register_20 (by rw [c25]; decide) (by rw [c25]; decide) (by rw [c25]; decide) (by decide) ?_
              refine lv_aload_n hx hb dX1_register_83 rfl (lv_at hl 0 rfl) ?_
              refine ztG_cpp C hP dX1_register_84 ?_
              exact zt_iret C hr hlk hP hS (by subst hu21; first | (unfold zt_register; rw [if_neg c1, if_neg c11, if_neg c22, if_neg c23, if_neg c24, if_pos c25]; done) | exact (if_neg c1).trans ((if_neg c11).trans ((if_neg c22).trans ((if_neg c23).trans ((if_neg c24).trans ((if_pos c25).trans (rfl))))))) dX1_register_87
            · skip
              by_cases c26 : a1 = 4
              · refine lv_tableIn (off := 68) (tgt := 88) hx hb dX1_register_20 (by rw [c26]; decide) (by rw [c26]; decide) (by rw [c26]; decide) (by decide) ?_
                refine lv_aload_n hx hb dX1_register_88 rfl (lv_at hl 0 rfl) ?_
                refine ztG_top C hP dX1_register_89 ?_
                exact zt_iret C hr hlk hP hS (by subst hu21; first | (unfold zt_register; rw [if_neg c1, if_neg c11, if_neg c22, if_neg c23, if_neg c24, if_neg c25, if_pos c26]; done) | exact (if_neg c1).trans ((if_neg c11).trans ((if_neg c22).trans ((if_neg c23).trans ((if_neg c24).trans ((if_neg c25).trans ((if_pos c26).trans (rfl)))))))) dX1_register_92
              · skip
                by_cases c27 : a1 = 5
                · refine lv_tableIn (off := 73) (tgt := 93) hx hb dX1_register_20 (by rw [c27]; decide) (by rw [c27]; decide) (by rw [c27]; decide) (by decide) ?_
                  refine lv_aload_n hx hb dX1_register_93 rfl (lv_at hl 0 rfl) ?_
                  refine ztG_state C hP dX1_register_94 ?_
                  exact zt_iret C hr hlk hP hS (by subst hu21; first | (unfold zt_register; rw [if_neg c1, if_neg c11, if_neg c22, if_neg c23, if_neg c24, if_neg c25, if_neg c26, if_pos c27]; done) | exact (if_neg c1).trans ((if_neg c11).trans ((if_neg c22).trans ((if_neg c23).trans ((if_neg c24).trans ((if_neg c25).trans ((if_neg c26).trans ((if_pos c27).trans (rfl))))))))) dX1_register_97
                · skip
                  by_cases c28 : a1 = 6
                  · refine lv_tableIn (off := 78) (tgt := 98) hx hb dX1_register_20 (by rw [c28]; decide) (by rw [c28]; decide) (by rw [c28]; decide) (by decide) ?_
                    refine lv_aload_n hx hb dX1_register_98 rfl (lv_at hl 0 rfl) ?_
                    refine ztG_cycles C hP dX1_register_99 ?_
                    exact zt_iret C hr hlk hP hS (by subst hu21; first | (unfold zt_register; rw [if_neg c1, if_neg c11, if_neg c22, if_neg c23, if_neg c24, if_neg c25, if_neg c26, if_neg c27, if_pos c28]; done) | exact (if_neg c1).trans ((if_neg c11).trans ((if_neg c22).trans ((if_neg c23).trans ((if_neg c24).trans ((if_neg c25).trans ((if_neg c26).trans ((if_neg c27).trans ((if_pos c28).trans (rfl)))))))))) dX1_register_102
                  · skip
                    by_cases c29 : a1 = 7
                    · refine lv_tableIn (off := 83) (tgt := 103) hx hb dX1_register_20 (by rw [c29]; decide) (by rw [c29]; decide) (by rw [c29]; decide) (by decide) ?_
                      refine lv_aload_n hx hb dX1_register_103 rfl (lv_at hl 0 rfl) ?_
                      refine ztG_done C hP dX1_register_104 ?_
                      exact zt_iret C hr hlk hP hS (by subst hu21; first | (unfold zt_register; rw [if_neg c1, if_neg c11, if_neg c22, if_neg c23, if_neg c24, if_neg c25, if_neg c26, if_neg c27, if_neg c28, if_pos c29]; done) | exact (if_neg c1).trans ((if_neg c11).trans ((if_neg c22).trans ((if_neg c23).trans ((if_neg c24).trans ((if_neg c25).trans ((if_neg c26).trans ((if_neg c27).trans ((if_neg c28).trans ((if_pos c29).trans (rfl))))))))))) dX1_register_107
                    · skip
                      refine lv_tableOut (tgt := 108) hx hb dX1_register_20 (by have qc22 := lv_neT c22 (show (0 : Int32).toInt = 0 from rfl); have qc23 := lv_neT c23 (show (1 : Int32).toInt = 1 from rfl); have qc24 := lv_neT c24 (show (2 : Int32).toInt = 2 from rfl); have qc25 := lv_neT c25 (show (3 : Int32).toInt = 3 from rfl); have qc26 := lv_neT c26 (show (4 : Int32).toInt = 4 from rfl); have qc27 := lv_neT c27 (show (5 : Int32).toInt = 5 from rfl); have qc28 := lv_neT c28 (show (6 : Int32).toInt = 6 from rfl); have qc29 := lv_neT c29 (show (7 : Int32).toInt = 7 from rfl); omega) (by decide) ?_
                      refine lv_iconst (v := 0) hx hb dX1_register_108 (by decide) ?_
                      exact zt_iret C hr hlk hP hS (by subst hu21; first | (unfold zt_register; rw [if_neg c1, if_neg c11, if_neg c22, if_neg c23, if_neg c24, if_neg c25, if_neg c26, if_neg c27, if_neg c28, if_neg c29]; done) | exact (if_neg c1).trans ((if_neg c11).trans ((if_neg c22).trans ((if_neg c23).trans ((if_neg c24).trans ((if_neg c25).trans ((if_neg c26).trans ((if_neg c27).trans ((if_neg c28).trans ((if_neg c29).trans (rfl))))))))))) dX1_register_109

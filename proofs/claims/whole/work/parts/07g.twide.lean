def zt_wide (u : Zts) : Int32 × Zts :=
  let r2 := (zt_byteAt u ((ztg_pc u) + 1)).1
  let u1 := (zt_byteAt u ((ztg_pc u) + 1)).2
  if (ztg_amiss u1) = 0 then (
    if r2 = 21 then (
      let u16 := zts_unknown u1 0
      if (ztg_amiss u16) = 0 then (
        let r19 := (zt_pair u16 ((ztg_pc u16) + 2)).1
        let u18 := (zt_pair u16 ((ztg_pc u16) + 2)).2
        if r2 = 21 then (
          let r24 := (zt_read u18 ((ztg_lv u16) + r19)).1
          let u23 := (zt_read u18 ((ztg_lv u16) + r19)).2
          let r26 := (zt_push u23 r24 4 10).1
          let u25 := (zt_push u23 r24 4 10).2
          (r26, u25))
        else (
          let r22 := (zt_store u18 ((ztg_lv u16) + r19) 4 11).1
          let u21 := (zt_store u18 ((ztg_lv u16) + r19) 4 11).2
          (r22, u21)))
      else (
        (0, u16)))
    else (
      if r2 = 54 then (
        let u28 := zts_unknown u1 0
        if (ztg_amiss u28) = 0 then (
          let r31 := (zt_pair u28 ((ztg_pc u28) + 2)).1
          let u30 := (zt_pair u28 ((ztg_pc u28) + 2)).2
          if r2 = 21 then (
            let r36 := (zt_read u30 ((ztg_lv u28) + r31)).1
            let u35 := (zt_read u30 ((ztg_lv u28) + r31)).2
            let r38 := (zt_push u35 r36 4 10).1
            let u37 := (zt_push u35 r36 4 10).2
            (r38, u37))
          else (
            let r34 := (zt_store u30 ((ztg_lv u28) + r31) 4 11).1
            let u33 := (zt_store u30 ((ztg_lv u28) + r31) 4 11).2
            (r34, u33)))
        else (
          (0, u28)))
      else (
        let u39 := zts_unknown u1 1
        if (ztg_amiss u39) = 0 then (
          (0, u39))
        else (
          (0, u39)))))
  else (
    let u4 := zts_unknown u1 0
    if (ztg_amiss u4) = 0 then (
      let r7 := (zt_pair u4 ((ztg_pc u4) + 2)).1
      let u6 := (zt_pair u4 ((ztg_pc u4) + 2)).2
      if r2 = 21 then (
        let r12 := (zt_read u6 ((ztg_lv u4) + r7)).1
        let u11 := (zt_read u6 ((ztg_lv u4) + r7)).2
        let r14 := (zt_push u11 r12 4 10).1
        let u13 := (zt_push u11 r12 4 10).2
        (r14, u13))
      else (
        let r10 := (zt_store u6 ((ztg_lv u4) + r7) 4 11).1
        let u9 := (zt_store u6 ((ztg_lv u4) + r7) 4 11).2
        (r10, u9)))
    else (
      (0, u4)))
set_option maxHeartbeats 4000000 in
set_option maxRecDepth 100000 in
theorem ztM_wide (l : Launch) (k : Ztk) (Dk : ZtD k) (u : Zts) {w0 : Nat → Int32} (hN : ZtG w0 4 u) : Met l yX1_wide (.code yX1_wide cX1_wide 3 (some .int) :: zwT) (zrm 3) (ZtB k [.ref (zta_this k)] u) (ZtQ k (some (.int (zt_wide u ).1)) (zt_wide u ).2) 0 0 (ZtA k) := by
  refine ztE_in (by decide) rfl (Nat.le_of_ble_eq_true rfl) Dk ?_
  intro p e s m below meth c ls C hr hlk hP hl
  have hx := C.1.1
  have hb := C.1.2.1
  have hl : lv_has ls 3 [(0, .ref (zta_this k))] := hl
  have hS : va_S (ZtA k) s.heap s.heap [] := va_S.rf
  refine lv_aload_n hx hb dX1_wide_0 rfl (lv_at hl 0 rfl) ?_
  refine lv_aload_n hx hb dX1_wide_1 rfl (lv_at hl 0 rfl) ?_
  refine ztG_pc C hP dX1_wide_2 ?_
  refine lv_iconst (v := 1) hx hb dX1_wide_5 (by decide) ?_
  refine lv_iadd hx hb dX1_wide_6 ?_
  refine ztK_byteAt C hP hS hl.1 (by decide) (Nat.le_of_ble_eq_true rfl) dX1_wide_7 (fun r2 u1 H locs hr2 hu1 hP hS => ?_)
  have hN_u1 : ZtG (w0) 4 u1 := by rw [hu1]; exact zt_Gle (by decide) (zt_G_byteAt _ hN)
  refine lv_istore_n (lv' := [(1, .int r2), (0, .ref (zta_this k))]) hx hb dX1_wide_10 rfl hl (by decide) rfl (fun ls hl => ?_)
  refine lv_aload_n hx hb dX1_wide_11 rfl (lv_at hl 1 rfl) ?_
  refine lv_aload_n hx hb dX1_wide_12 rfl (lv_at hl 1 rfl) ?_
  refine ztG_amiss C hP dX1_wide_13 ?_
  refine lv_if_ne (tgt := 35) hx hb dX1_wide_16 (by decide) (fun c3 => ?_) (fun c3 => ?_)
  · refine lv_iconst (v := 0) hx hb dX1_wide_35 (by decide) ?_
    refine ztP_unknown C hP hS rfl rfl dX1_wide_36 (fun u4 H locs hu4 hP hS => ?_)
    have hN_u4 : ZtG (w0) 4 u4 := by rw [hu4]; exact zt_Gs_unknown _ hN_u1
    refine lv_aload_n hx hb dX1_wide_39 rfl (lv_at hl 1 rfl) ?_
    refine ztG_amiss C hP dX1_wide_40 ?_
    refine lv_if_ne (tgt := 53) hx hb dX1_wide_43 (by decide) (fun c5 => ?_) (fun c5 => ?_)
    · refine lv_iconst (v := 0) hx hb dX1_wide_53 (by decide) ?_
      exact zt_iret C hr hlk hP hS (by subst hu4 hu1 hr2; first | (unfold zt_wide; rw [if_neg c3, if_neg c5]; done) | exact (if_neg c3).trans ((if_neg c5).trans (rfl))) dX1_wide_54
    · refine lv_aload_n hx hb dX1_wide_46 rfl (lv_at hl 1 rfl) ?_
      refine ztG_unknown C hP dX1_wide_47 ?_
      refine lv_if_eq (tgt := 55) hx hb dX1_wide_50 (by decide) (fun _ => ?_) (fun q => absurd (show ¬ ((0 : Int32) = 0) by subst hu4 hu1 hr2; exact q) (by decide))
      refine lv_aload_n hx hb dX1_wide_55 rfl (lv_at hl 1 rfl) ?_
      refine ztG_lv C hP dX1_wide_56 ?_
      refine lv_aload_n hx hb dX1_wide_59 rfl (lv_at hl 1 rfl) ?_
      refine lv_aload_n hx hb dX1_wide_60 rfl (lv_at hl 1 rfl) ?_
      refine ztG_pc C hP dX1_wide_61 ?_
      refine lv_iconst (v := 2) hx hb dX1_wide_64 (by decide) ?_
      refine lv_iadd hx hb dX1_wide_65 ?_
      refine ztK_pair C hP hS hl.1 (by decide) (Nat.le_of_ble_eq_true rfl) dX1_wide_66 (fun r7 u6 H locs hr7 hu6 hP hS => ?_)
      have hN_u6 : ZtG (w0) 4 u6 := by rw [hu6]; exact zt_Gle (by decide) (zt_G_pair _ hN_u4)
      refine lv_iadd hx hb dX1_wide_69 ?_
      refine lv_istore_n (lv' := [(2, .int ((ztg_lv u4) + r7)), (1, .int r2), (0, .ref (zta_this k))]) hx hb dX1_wide_70 rfl hl (by decide) rfl (fun ls hl => ?_)
      refine lv_iload_n hx hb dX1_wide_71 rfl (lv_at hl 1 rfl) ?_
      refine lv_bipush (v := 21) hx hb dX1_wide_72 (by decide) ?_
      refine lv_icmp_ne (tgt := 92) hx hb dX1_wide_74 (by decide) (fun c8 => ?_) (fun c8 => ?_)
      · refine lv_aload_n hx hb dX1_wide_92 rfl (lv_at hl 2 rfl) ?_
        refine lv_iload_n hx hb dX1_wide_93 rfl (lv_at hl 0 rfl) ?_
        refine lv_iconst (v := 4) hx hb dX1_wide_94 (by decide) ?_
        refine lv_bipush (v := 11) hx hb dX1_wide_95 (by decide) ?_
        refine ztK_store C hP hS hl.1 (by decide) (Nat.le_of_ble_eq_true rfl) (w0 := w0) (zt_Gle (by decide) hN_u6) dX1_wide_97 (fun r10 u9 H locs hr10 hu9 hP hS => ?_)
        have hN_u9 : ZtG (w0) 5 u9 := by rw [hu9]; exact zt_Gle (by decide) (zt_G_store _ _ _ (by decide) hN_u6)
        exact zt_iret C hr hlk hP hS (by subst hu9 hr10 hu6 hr7 hu4 hu1 hr2; first | (unfold zt_wide; rw [if_neg c3, if_pos c5, if_neg c8]; done) | exact (if_neg c3).trans ((if_pos c5).trans ((if_neg c8).trans (rfl)))) dX1_wide_100
      · refine lv_aload_n hx hb dX1_wide_77 rfl (lv_at hl 2 rfl) ?_
        refine lv_aload_n hx hb dX1_wide_78 rfl (lv_at hl 2 rfl) ?_
        refine lv_iload_n hx hb dX1_wide_79 rfl (lv_at hl 0 rfl) ?_
        refine ztK_read C hP hS hl.1 (by decide) (Nat.le_of_ble_eq_true rfl) dX1_wide_80 (fun r12 u11 H locs hr12 hu11 hP hS => ?_)
        have hN_u11 : ZtG (w0) 4 u11 := by rw [hu11]; exact zt_Gle (by decide) (zt_G_read _ hN_u6)
        refine lv_iconst (v := 4) hx hb dX1_wide_83 (by decide) ?_
        refine lv_bipush (v := 10) hx hb dX1_wide_84 (by decide) ?_
        refine ztK_push C hP hS hl.1 (by decide) (Nat.le_of_ble_eq_true rfl) (w0 := w0) (zt_Gle (by decide) hN_u11) dX1_wide_86 (fun r14 u13 H locs hr14 hu13 hP hS => ?_)
        have hN_u13 : ZtG (w0) 5 u13 := by rw [hu13]; exact zt_Gle (by decide) (zt_G_push _ _ _ (by decide) hN_u11)
        refine lv_goto (tgt := 100) hx hb dX1_wide_89 (by decide) ?_
        exact zt_iret C hr hlk hP hS (by subst hu13 hr14 hu11 hr12 hu6 hr7 hu4 hu1 hr2; first | (unfold zt_wide; rw [if_neg c3, if_pos c5, if_pos c8]; done) | exact (if_neg c3).trans ((if_pos c5).trans ((if_pos c8).trans (rfl)))) dX1_wide_100
  · refine lv_iload_n hx hb dX1_wide_19 rfl (lv_at hl 0 rfl) ?_
    refine lv_bipush (v := 21) hx hb dX1_wide_20 (by decide) ?_
    refine lv_icmp_eq (tgt := 35) hx hb dX1_wide_22 (by decide) (fun c15 => ?_) (fun c15 => ?_)
    · refine lv_iconst (v := 0) hx hb dX1_wide_35 (by decide) ?_
      refine ztP_unknown C hP hS rfl rfl dX1_wide_36 (fun u16 H locs hu16 hP hS => ?_)
      have hN_u16 : ZtG (w0) 4 u16 := by rw [hu16]; exact zt_Gs_unknown _ hN_u1
      refine lv_aload_n hx hb dX1_wide_39 rfl (lv_at hl 1 rfl) ?_
      refine ztG_amiss C hP dX1_wide_40 ?_
      refine lv_if_ne (tgt := 53) hx hb dX1_wide_43 (by decide) (fun c17 => ?_) (fun c17 => ?_)
      · refine lv_iconst (v := 0) hx hb dX1_wide_53 (by decide) ?_
        exact zt_iret C hr hlk hP hS (by subst hu16 hu1 hr2; first | (unfold zt_wide; rw [if_pos c3, if_pos c15, if_neg c17]; done) | exact (if_pos c3).trans ((if_pos c15).trans ((if_neg c17).trans (rfl)))) dX1_wide_54
      · refine lv_aload_n hx hb dX1_wide_46 rfl (lv_at hl 1 rfl) ?_
        refine ztG_unknown C hP dX1_wide_47 ?_
        refine lv_if_eq (tgt := 55) hx hb dX1_wide_50 (by decide) (fun _ => ?_) (fun q => absurd (show ¬ ((0 : Int32) = 0) by subst hu16 hu1 hr2; exact q) (by decide))
        refine lv_aload_n hx hb dX1_wide_55 rfl (lv_at hl 1 rfl) ?_
        refine ztG_lv C hP dX1_wide_56 ?_
        refine lv_aload_n hx hb dX1_wide_59 rfl (lv_at hl 1 rfl) ?_
        refine lv_aload_n hx hb dX1_wide_60 rfl (lv_at hl 1 rfl) ?_
        refine ztG_pc C hP dX1_wide_61 ?_
        refine lv_iconst (v := 2) hx hb dX1_wide_64 (by decide) ?_
        refine lv_iadd hx hb dX1_wide_65 ?_
        refine ztK_pair C hP hS hl.1 (by decide) (Nat.le_of_ble_eq_true rfl) dX1_wide_66 (fun r19 u18 H locs hr19 hu18 hP hS => ?_)
        have hN_u18 : ZtG (w0) 4 u18 := by rw [hu18]; exact zt_Gle (by decide) (zt_G_pair _ hN_u16)
        refine lv_iadd hx hb dX1_wide_69 ?_
        refine lv_istore_n (lv' := [(2, .int ((ztg_lv u16) + r19)), (1, .int r2), (0, .ref (zta_this k))]) hx hb dX1_wide_70 rfl hl (by decide) rfl (fun ls hl => ?_)
        refine lv_iload_n hx hb dX1_wide_71 rfl (lv_at hl 1 rfl) ?_
        refine lv_bipush (v := 21) hx hb dX1_wide_72 (by decide) ?_
        refine lv_icmp_ne (tgt := 92) hx hb dX1_wide_74 (by decide) (fun c20 => ?_) (fun c20 => ?_)
        · refine lv_aload_n hx hb dX1_wide_92 rfl (lv_at hl 2 rfl) ?_
          refine lv_iload_n hx hb dX1_wide_93 rfl (lv_at hl 0 rfl) ?_
          refine lv_iconst (v := 4) hx hb dX1_wide_94 (by decide) ?_
          refine lv_bipush (v := 11) hx hb dX1_wide_95 (by decide) ?_
          refine ztK_store C hP hS hl.1 (by decide) (Nat.le_of_ble_eq_true rfl) (w0 := w0) (zt_Gle (by decide) hN_u18) dX1_wide_97 (fun r22 u21 H locs hr22 hu21 hP hS => ?_)
          have hN_u21 : ZtG (w0) 5 u21 := by rw [hu21]; exact zt_Gle (by decide) (zt_G_store _ _ _ (by decide) hN_u18)
          exact zt_iret C hr hlk hP hS (by subst hu21 hr22 hu18 hr19 hu16 hu1 hr2; first | (unfold zt_wide; rw [if_pos c3, if_pos c15, if_pos c17, if_neg c20]; done) | exact (if_pos c3).trans ((if_pos c15).trans ((if_pos c17).trans ((if_neg c20).trans (rfl))))) dX1_wide_100
        · refine lv_aload_n hx hb dX1_wide_77 rfl (lv_at hl 2 rfl) ?_
          refine lv_aload_n hx hb dX1_wide_78 rfl (lv_at hl 2 rfl) ?_
          refine lv_iload_n hx hb dX1_wide_79 rfl (lv_at hl 0 rfl) ?_
          refine ztK_read C hP hS hl.1 (by decide) (Nat.le_of_ble_eq_true rfl) dX1_wide_80 (fun r24 u23 H locs hr24 hu23 hP hS => ?_)
          have hN_u23 : ZtG (w0) 4 u23 := by rw [hu23]; exact zt_Gle (by decide) (zt_G_read _ hN_u18)
          refine lv_iconst (v := 4) hx hb dX1_wide_83 (by decide) ?_
          refine lv_bipush (v := 10) hx hb dX1_wide_84 (by decide) ?_
          refine ztK_push C hP hS hl.1 (by decide) (Nat.le_of_ble_eq_true rfl) (w0 := w0) (zt_Gle (by decide) hN_u23) dX1_wide_86 (fun r26 u25 H locs hr26 hu25 hP hS => ?_)
          have hN_u25 : ZtG (w0) 5 u25 := by rw [hu25]; exact zt_Gle (by decide) (zt_G_push _ _ _ (by decide) hN_u23)
          refine lv_goto (tgt := 100) hx hb dX1_wide_89 (by decide) ?_
          exact zt_iret C hr hlk hP hS (by subst hu25 hr26 hu23 hr24 hu18 hr19 hu16 hu1 hr2; first | (unfold zt_wide; rw [if_pos c3, if_pos c15, if_pos c17, if_pos c20]; done) | exact (if_pos c3).trans ((if_pos c15).trans ((if_pos c17).trans ((if_pos c20).trans (rfl))))) dX1_wide_100
    · refine lv_iload_n hx hb dX1_wide_25 rfl (lv_at hl 0 rfl) ?_
      refine lv_bipush (v := 54) hx hb dX1_wide_26 (by decide) ?_
      refine lv_icmp_eq (tgt := 35) hx hb dX1_wide_28 (by decide) (fun c27 => ?_) (fun c27 => ?_)
      · refine lv_iconst (v := 0) hx hb dX1_wide_35 (by decide) ?_
        refine ztP_unknown C hP hS rfl rfl dX1_wide_36 (fun u28 H locs hu28 hP hS => ?_)
        have hN_u28 : ZtG (w0) 4 u28 := by rw [hu28]; exact zt_Gs_unknown _ hN_u1
        refine lv_aload_n hx hb dX1_wide_39 rfl (lv_at hl 1 rfl) ?_
        refine ztG_amiss C hP dX1_wide_40 ?_
        refine lv_if_ne (tgt := 53) hx hb dX1_wide_43 (by decide) (fun c29 => ?_) (fun c29 => ?_)
        · refine lv_iconst (v := 0) hx hb dX1_wide_53 (by decide) ?_
          exact zt_iret C hr hlk hP hS (by subst hu28 hu1 hr2; first | (unfold zt_wide; rw [if_pos c3, if_neg c15, if_pos c27, if_neg c29]; done) | exact (if_pos c3).trans ((if_neg c15).trans ((if_pos c27).trans ((if_neg c29).trans (rfl))))) dX1_wide_54
        · refine lv_aload_n hx hb dX1_wide_46 rfl (lv_at hl 1 rfl) ?_
          refine ztG_unknown C hP dX1_wide_47 ?_
          refine lv_if_eq (tgt := 55) hx hb dX1_wide_50 (by decide) (fun _ => ?_) (fun q => absurd (show ¬ ((0 : Int32) = 0) by subst hu28 hu1 hr2; exact q) (by decide))
          refine lv_aload_n hx hb dX1_wide_55 rfl (lv_at hl 1 rfl) ?_
          refine ztG_lv C hP dX1_wide_56 ?_
          refine lv_aload_n hx hb dX1_wide_59 rfl (lv_at hl 1 rfl) ?_
          refine lv_aload_n hx hb dX1_wide_60 rfl (lv_at hl 1 rfl) ?_
          refine ztG_pc C hP dX1_wide_61 ?_
          refine lv_iconst (v := 2) hx hb dX1_wide_64 (by decide) ?_
          refine lv_iadd hx hb dX1_wide_65 ?_
          refine ztK_pair C hP hS hl.1 (by decide) (Nat.le_of_ble_eq_true rfl) dX1_wide_66 (fun r31 u30 H locs hr31 hu30 hP hS => ?_)
          have hN_u30 : ZtG (w0) 4 u30 := by rw [hu30]; exact zt_Gle (by decide) (zt_G_pair _ hN_u28)
          refine lv_iadd hx hb dX1_wide_69 ?_
          refine lv_istore_n (lv' := [(2, .int ((ztg_lv u28) + r31)), (1, .int r2), (0, .ref (zta_this k))]) hx hb dX1_wide_70 rfl hl (by decide) rfl (fun ls hl => ?_)
          refine lv_iload_n hx hb dX1_wide_71 rfl (lv_at hl 1 rfl) ?_
          refine lv_bipush (v := 21) hx hb dX1_wide_72 (by decide) ?_
          refine lv_icmp_ne (tgt := 92) hx hb dX1_wide_74 (by decide) (fun c32 => ?_) (fun c32 => ?_)
          · refine lv_aload_n hx hb dX1_wide_92 rfl (lv_at hl 2 rfl) ?_
            refine lv_iload_n hx hb dX1_wide_93 rfl (lv_at hl 0 rfl) ?_
            refine lv_iconst (v := 4) hx hb dX1_wide_94 (by decide) ?_
            refine lv_bipush (v := 11) hx hb dX1_wide_95 (by decide) ?_
            refine ztK_store C hP hS hl.1 (by decide) (Nat.le_of_ble_eq_true rfl) (w0 := w0) (zt_Gle (by decide) hN_u30) dX1_wide_97 (fun r34 u33 H locs hr34 hu33 hP hS => ?_)
            have hN_u33 : ZtG (w0) 5 u33 := by rw [hu33]; exact zt_Gle (by decide) (zt_G_store _ _ _ (by decide) hN_u30)
            exact zt_iret C hr hlk hP hS (by subst hu33 hr34 hu30 hr31 hu28 hu1 hr2; first | (unfold zt_wide; rw [if_pos c3, if_neg c15, if_pos c27, if_pos c29, if_neg c32]; done) | exact (if_pos c3).trans ((if_neg c15).trans ((if_pos c27).trans ((if_pos c29).trans ((if_neg c32).trans (rfl)))))) dX1_wide_100
          · refine lv_aload_n hx hb dX1_wide_77 rfl (lv_at hl 2 rfl) ?_
            refine lv_aload_n hx hb dX1_wide_78 rfl (lv_at hl 2 rfl) ?_
            refine lv_iload_n hx hb dX1_wide_79 rfl (lv_at hl 0 rfl) ?_
            refine ztK_read C hP hS hl.1 (by decide) (Nat.le_of_ble_eq_true rfl) dX1_wide_80 (fun r36 u35 H locs hr36 hu35 hP hS => ?_)
            have hN_u35 : ZtG (w0) 4 u35 := by rw [hu35]; exact zt_Gle (by decide) (zt_G_read _ hN_u30)
            refine lv_iconst (v := 4) hx hb dX1_wide_83 (by decide) ?_
            refine lv_bipush (v := 10) hx hb dX1_wide_84 (by decide) ?_
            refine ztK_push C hP hS hl.1 (by decide) (Nat.le_of_ble_eq_true rfl) (w0 := w0) (zt_Gle (by decide) hN_u35) dX1_wide_86 (fun r38 u37 H locs hr38 hu37 hP hS => ?_)
            have hN_u37 : ZtG (w0) 5 u37 := by rw [hu37]; exact zt_Gle (by decide) (zt_G_push _ _ _ (by decide) hN_u35)
            refine lv_goto (tgt := 100) hx hb dX1_wide_89 (by decide) ?_
            exact zt_iret C hr hlk hP hS (by subst hu37 hr38 hu35 hr36 hu30 hr31 hu28 hu1 hr2; first | (unfold zt_wide; rw [if_pos c3, if_neg c15, if_pos c27, if_pos c29, if_pos c32]; done) | exact (if_pos c3).trans ((if_neg c15).trans ((if_pos c27).trans ((if_pos c29).trans ((if_pos c32).trans (rfl)))))) dX1_wide_100
      · refine lv_iconst (v := 1) hx hb dX1_wide_31 (by decide) ?_
        refine lv_goto (tgt := 36) hx hb dX1_wide_32 (by decide) ?_
        refine ztP_unknown C hP hS rfl rfl dX1_wide_36 (fun u39 H locs hu39 hP hS => ?_)
        have hN_u39 : ZtG (w0) 4 u39 := by rw [hu39]; exact zt_Gs_unknown _ hN_u1
        refine lv_aload_n hx hb dX1_wide_39 rfl (lv_at hl 1 rfl) ?_
        refine ztG_amiss C hP dX1_wide_40 ?_
        refine lv_if_ne (tgt := 53) hx hb dX1_wide_43 (by decide) (fun c40 => ?_) (fun c40 => ?_)
        · refine lv_iconst (v := 0) hx hb dX1_wide_53 (by decide) ?_
          exact zt_iret C hr hlk hP hS (by subst hu39 hu1 hr2; first | (unfold zt_wide; rw [if_pos c3, if_neg c15, if_neg c27, if_neg c40]; done) | exact (if_pos c3).trans ((if_neg c15).trans ((if_neg c27).trans ((if_neg c40).trans (rfl))))) dX1_wide_54
        · refine lv_aload_n hx hb dX1_wide_46 rfl (lv_at hl 1 rfl) ?_
          refine ztG_unknown C hP dX1_wide_47 ?_
          refine lv_if_eq (tgt := 55) hx hb dX1_wide_50 (by decide) (fun q => absurd (show (1 : Int32) = 0 by subst hu39 hu1 hr2; exact q) (by decide)) (fun _ => ?_)
          refine lv_iconst (v := 0) hx hb dX1_wide_53 (by decide) ?_
          exact zt_iret C hr hlk hP hS (by subst hu39 hu1 hr2; first | (unfold zt_wide; rw [if_pos c3, if_neg c15, if_neg c27, if_pos c40]; done) | exact (if_pos c3).trans ((if_neg c15).trans ((if_neg c27).trans ((if_pos c40).trans (rfl))))) dX1_wide_54
section
variable {p : Program} {l : Launch} {e : Env} {R : Room} {s : State} {m : MethodId} {args : Array Value} {below : List Frame} {meth : Method} {c : Code} {H : Heap} {locs : List Loc} {Q : State → Prop} {cc : ByteArray} {pc nL : Nat} {ls : Array Slot} {rest : List Value} {k : Ztk} {u : Zts} {H0 : Heap}
set_option maxHeartbeats 4000000 in
set_option maxRecDepth 100000 in
theorem ztK_wide (C : ZtC p s m args c cc nL k) (hP : ZtP k u H) (hS : va_S (ZtA k) H0 H locs) (hsz : ls.size = nL) (hR : 3 + 1 ≤ R.frames ∧ 8 + (3 + 11) + 40 * 3 ≤ R.locals) (hw : (rest.map fun v => v.category).sum ≤ 8) {w0 : Nat → Int32} (hN : ZtG w0 4 u) (hdg : decode cc pc = .ok (.invokevirtual 103, 3)) (kk : ∀ (r1 : Int32) (u1 : Zts) (H1 : Heap) (locs1 : List Loc), r1 = (zt_wide u ).1 → u1 = (zt_wide u ).2 → ZtP k u1 H1 → va_S (ZtA k) H0 H1 locs1 → W p l e R s m args below meth c H1 locs1 0 0 Q (F0 m (pc + 3) ls (.int r1 :: rest))) : W p l e R s m args below meth c H locs 0 0 Q (F0 m pc ls (.ref (zta_this k) :: rest)) :=
  zt_callV (y := yX1_wide) (n := 0) (As := []) C (ztM_wide l k C.2.2 u  hN) zwT_c_wide zwT_l_wide zwT_i_wide zwT_v_wide rfl (by decide +kernel) hP hS hsz hR hw rfl hdg (fun H1 locs1 hP1 hS1 => kk _ _ H1 locs1 rfl rfl hP1 hS1)
end
set_option maxHeartbeats 4000000 in
theorem zt_G_wide {w0 : Nat → Int32} {n : Nat} {u : Zts} (hn : n ≤ 4) (h : ZtG w0 n u) : ZtG w0 (n + 1) (zt_wide u ).2 := by
  have gu : ZtG w0 (n + 0) u := h
  obtain ⟨r2, hr2⟩ : ∃ z, z = (zt_byteAt u ((ztg_pc u) + 1)).1 := ⟨_, rfl⟩
  obtain ⟨u1, hu1⟩ : ∃ z, z = (zt_byteAt u ((ztg_pc u) + 1)).2 := ⟨_, rfl⟩
  have gu1 : ZtG w0 (n + 0) u1 := by rw [hu1]; exact zt_Gle (by omega) (zt_G_byteAt _ gu)
  by_cases e3 : (ztg_amiss u1) = 0
  · by_cases e4 : r2 = 21
    · obtain ⟨u16, hu16⟩ : ∃ z, z = zts_unknown u1 0 := ⟨_, rfl⟩
      have gu16 : ZtG w0 (n + 0) u16 := by rw [hu16]; exact zt_Gs_unknown _ gu1
      by_cases e7 : (ztg_amiss u16) = 0
      · obtain ⟨r19, hr19⟩ : ∃ z, z = (zt_pair u16 ((ztg_pc u16) + 2)).1 := ⟨_, rfl⟩
        obtain ⟨u18, hu18⟩ : ∃ z, z = (zt_pair u16 ((ztg_pc u16) + 2)).2 := ⟨_, rfl⟩
        have gu18 : ZtG w0 (n + 0) u18 := by rw [hu18]; exact zt_Gle (by omega) (zt_G_pair _ gu16)
        by_cases e11 : r2 = 21
        · obtain ⟨r24, hr24⟩ : ∃ z, z = (zt_read u18 ((ztg_lv u16) + r19)).1 := ⟨_, rfl⟩
          obtain ⟨u23, hu23⟩ : ∃ z, z = (zt_read u18 ((ztg_lv u16) + r19)).2 := ⟨_, rfl⟩
          have gu23 : ZtG w0 (n + 0) u23 := by rw [hu23]; exact zt_Gle (by omega) (zt_G_read _ gu18)
          obtain ⟨r26, hr26⟩ : ∃ z, z = (zt_push u23 r24 4 10).1 := ⟨_, rfl⟩
          obtain ⟨u25, hu25⟩ : ∃ z, z = (zt_push u23 r24 4 10).2 := ⟨_, rfl⟩
          have gu25 : ZtG w0 (n + 1) u25 := by rw [hu25]; exact zt_Gle (by omega) (zt_G_push _ _ _ (by omega) gu23)
          have eq9 : zt_wide u = (r26, u25) := by subst hu25 hr26 hu23 hr24 hu18 hr19 hu16 hu1 hr2; first | (unfold zt_wide; rw [if_pos e3, if_pos e4, if_pos e7, if_pos e11]; done) | exact (if_pos e3).trans ((if_pos e4).trans ((if_pos e7).trans ((if_pos e11).trans (rfl))))
          rw [eq9]; exact zt_Gle (by omega) gu25
        · obtain ⟨r22, hr22⟩ : ∃ z, z = (zt_store u18 ((ztg_lv u16) + r19) 4 11).1 := ⟨_, rfl⟩
          obtain ⟨u21, hu21⟩ : ∃ z, z = (zt_store u18 ((ztg_lv u16) + r19) 4 11).2 := ⟨_, rfl⟩
          have gu21 : ZtG w0 (n + 1) u21 := by rw [hu21]; exact zt_Gle (by omega) (zt_G_store _ _ _ (by omega) gu18)
          have eq9 : zt_wide u = (r22, u21) := by subst hu21 hr22 hu18 hr19 hu16 hu1 hr2; first | (unfold zt_wide; rw [if_pos e3, if_pos e4, if_pos e7, if_neg e11]; done) | exact (if_pos e3).trans ((if_pos e4).trans ((if_pos e7).trans ((if_neg e11).trans (rfl))))
          rw [eq9]; exact zt_Gle (by omega) gu21
      · have eq9 : zt_wide u = (0, u16) := by subst hu16 hu1 hr2; first | (unfold zt_wide; rw [if_pos e3, if_pos e4, if_neg e7]; done) | exact (if_pos e3).trans ((if_pos e4).trans ((if_neg e7).trans (rfl)))
        rw [eq9]; exact zt_Gle (by omega) gu16
    · by_cases e27 : r2 = 54
      · obtain ⟨u28, hu28⟩ : ∃ z, z = zts_unknown u1 0 := ⟨_, rfl⟩
        have gu28 : ZtG w0 (n + 0) u28 := by rw [hu28]; exact zt_Gs_unknown _ gu1
        by_cases e30 : (ztg_amiss u28) = 0
        · obtain ⟨r31, hr31⟩ : ∃ z, z = (zt_pair u28 ((ztg_pc u28) + 2)).1 := ⟨_, rfl⟩
          obtain ⟨u30, hu30⟩ : ∃ z, z = (zt_pair u28 ((ztg_pc u28) + 2)).2 := ⟨_, rfl⟩
          have gu30 : ZtG w0 (n + 0) u30 := by rw [hu30]; exact zt_Gle (by omega) (zt_G_pair _ gu28)
          by_cases e34 : r2 = 21
          · obtain ⟨r36, hr36⟩ : ∃ z, z = (zt_read u30 ((ztg_lv u28) + r31)).1 := ⟨_, rfl⟩
            obtain ⟨u35, hu35⟩ : ∃ z, z = (zt_read u30 ((ztg_lv u28) + r31)).2 := ⟨_, rfl⟩
            have gu35 : ZtG w0 (n + 0) u35 := by rw [hu35]; exact zt_Gle (by omega) (zt_G_read _ gu30)
            obtain ⟨r38, hr38⟩ : ∃ z, z = (zt_push u35 r36 4 10).1 := ⟨_, rfl⟩
            obtain ⟨u37, hu37⟩ : ∃ z, z = (zt_push u35 r36 4 10).2 := ⟨_, rfl⟩
            have gu37 : ZtG w0 (n + 1) u37 := by rw [hu37]; exact zt_Gle (by omega) (zt_G_push _ _ _ (by omega) gu35)
            have eq9 : zt_wide u = (r38, u37) := by subst hu37 hr38 hu35 hr36 hu30 hr31 hu28 hu1 hr2; first | (unfold zt_wide; rw [if_pos e3, if_neg e4, if_pos e27, if_pos e30, if_pos e34]; done) | exact (if_pos e3).trans ((if_neg e4).trans ((if_pos e27).trans ((if_pos e30).trans ((if_pos e34).trans (rfl)))))
            rw [eq9]; exact zt_Gle (by omega) gu37
          · obtain ⟨r34, hr34⟩ : ∃ z, z = (zt_store u30 ((ztg_lv u28) + r31) 4 11).1 := ⟨_, rfl⟩
            obtain ⟨u33, hu33⟩ : ∃ z, z = (zt_store u30 ((ztg_lv u28) + r31) 4 11).2 := ⟨_, rfl⟩
            have gu33 : ZtG w0 (n + 1) u33 := by rw [hu33]; exact zt_Gle (by omega) (zt_G_store _ _ _ (by omega) gu30)
            have eq9 : zt_wide u = (r34, u33) := by subst hu33 hr34 hu30 hr31 hu28 hu1 hr2; first | (unfold zt_wide; rw [if_pos e3, if_neg e4, if_pos e27, if_pos e30, if_neg e34]; done) | exact (if_pos e3).trans ((if_neg e4).trans ((if_pos e27).trans ((if_pos e30).trans ((if_neg e34).trans (rfl)))))
            rw [eq9]; exact zt_Gle (by omega) gu33
        · have eq9 : zt_wide u = (0, u28) := by subst hu28 hu1 hr2; first | (unfold zt_wide; rw [if_pos e3, if_neg e4, if_pos e27, if_neg e30]; done) | exact (if_pos e3).trans ((if_neg e4).trans ((if_pos e27).trans ((if_neg e30).trans (rfl))))
          rw [eq9]; exact zt_Gle (by omega) gu28
      · obtain ⟨u39, hu39⟩ : ∃ z, z = zts_unknown u1 1 := ⟨_, rfl⟩
        have gu39 : ZtG w0 (n + 0) u39 := by rw [hu39]; exact zt_Gs_unknown _ gu1
        by_cases e52 : (ztg_amiss u39) = 0
        · have eq9 : zt_wide u = (0, u39) := by subst hu39 hu1 hr2; first | (unfold zt_wide; rw [if_pos e3, if_neg e4, if_neg e27, if_pos e52]; done) | exact (if_pos e3).trans ((if_neg e4).trans ((if_neg e27).trans ((if_pos e52).trans (rfl))))
          rw [eq9]; exact zt_Gle (by omega) gu39
        · have eq9 : zt_wide u = (0, u39) := by subst hu39 hu1 hr2; first | (unfold zt_wide; rw [if_pos e3, if_neg e4, if_neg e27, if_neg e52]; done) | exact (if_pos e3).trans ((if_neg e4).trans ((if_neg e27).trans ((if_neg e52).trans (rfl))))
          rw [eq9]; exact zt_Gle (by omega) gu39
  · obtain ⟨u4, hu4⟩ : ∃ z, z = zts_unknown u1 0 := ⟨_, rfl⟩
    have gu4 : ZtG w0 (n + 0) u4 := by rw [hu4]; exact zt_Gs_unknown _ gu1
    by_cases e59 : (ztg_amiss u4) = 0
    · obtain ⟨r7, hr7⟩ : ∃ z, z = (zt_pair u4 ((ztg_pc u4) + 2)).1 := ⟨_, rfl⟩
      obtain ⟨u6, hu6⟩ : ∃ z, z = (zt_pair u4 ((ztg_pc u4) + 2)).2 := ⟨_, rfl⟩
      have gu6 : ZtG w0 (n + 0) u6 := by rw [hu6]; exact zt_Gle (by omega) (zt_G_pair _ gu4)
      by_cases e63 : r2 = 21
      · obtain ⟨r12, hr12⟩ : ∃ z, z = (zt_read u6 ((ztg_lv u4) + r7)).1 := ⟨_, rfl⟩
        obtain ⟨u11, hu11⟩ : ∃ z, z = (zt_read u6 ((ztg_lv u4) + r7)).2 := ⟨_, rfl⟩
        have gu11 : ZtG w0 (n + 0) u11 := by rw [hu11]; exact zt_Gle (by omega) (zt_G_read _ gu6)
        obtain ⟨r14, hr14⟩ : ∃ z, z = (zt_push u11 r12 4 10).1 := ⟨_, rfl⟩
        obtain ⟨u13, hu13⟩ : ∃ z, z = (zt_push u11 r12 4 10).2 := ⟨_, rfl⟩
        have gu13 : ZtG w0 (n + 1) u13 := by rw [hu13]; exact zt_Gle (by omega) (zt_G_push _ _ _ (by omega) gu11)
        have eq9 : zt_wide u = (r14, u13) := by subst hu13 hr14 hu11 hr12 hu6 hr7 hu4 hu1 hr2; first | (unfold zt_wide; rw [if_neg e3, if_pos e59, if_pos e63]; done) | exact (if_neg e3).trans ((if_pos e59).trans ((if_pos e63).trans (rfl)))
        rw [eq9]; exact zt_Gle (by omega) gu13
      · obtain ⟨r10, hr10⟩ : ∃ z, z = (zt_store u6 ((ztg_lv u4) + r7) 4 11).1 := ⟨_, rfl⟩
        obtain ⟨u9, hu9⟩ : ∃ z, z = (zt_store u6 ((ztg_lv u4) + r7) 4 11).2 := ⟨_, rfl⟩
        have gu9 : ZtG w0 (n + 1) u9 := by rw [hu9]; exact zt_Gle (by omega) (zt_G_store _ _ _ (by omega) gu6)
        have eq9 : zt_wide u = (r10, u9) := by subst hu9 hr10 hu6 hr7 hu4 hu1 hr2; first | (unfold zt_wide; rw [if_neg e3, if_pos e59, if_neg e63]; done) | exact (if_neg e3).trans ((if_pos e59).trans ((if_neg e63).trans (rfl)))
        rw [eq9]; exact zt_Gle (by omega) gu9
    · have eq9 : zt_wide u = (0, u4) := by subst hu4 hu1 hr2; first | (unfold zt_wide; rw [if_neg e3, if_neg e59]; done) | exact (if_neg e3).trans ((if_neg e59).trans (rfl))
      rw [eq9]; exact zt_Gle (by omega) gu4

def zt_wide (u : Zts) : Int32 × Zts :=
  let r2 := (zt_byteAt u ((ztg_pc u) + 1)).1
  let u1 := (zt_byteAt u ((ztg_pc u) + 1)).2
  if (ztg_amiss u1) = 0 then (
    if r2 = 21 then (
      let u16 := zts_unknown u1 0
      if (ztg_amiss u16) = 0 then (
        let r19 := (zt_pair u16 ((ztg_pc u16) + 2)).1
        let u18 := (zt_pair u16 ((ztg_pc u16) + 2)).2
        if r2 = 21 then (
          let r24 := (zt_read u18 ((ztg_lv u16) + r19)).1
          let u23 := (zt_read u18 ((ztg_lv u16) + r19)).2
          let r26 := (zt_push u23 r24 4 10).1
          let u25 := (zt_push u23 r24 4 10).2
          (r26, u25))
        else (
          let r22 := (zt_store u18 ((ztg_lv u16) + r19) 4 11).1
          let u21 := (zt_store u18 ((ztg_lv u16) + r19) 4 11).2
          (r22, u21)))
      else (
        (0, u16)))
    else (
      if r2 = 54 then (
        let u28 := zts_unknown u1 0
        if (ztg_amiss u28) = 0 then (
          let r31 := (zt_pair u28 ((ztg_pc u28) + 2)).1
          let u30 := (zt_pair u28 ((ztg_pc u28) + 2)).2
          if r2 = 21 then (
            let r36 := (zt_read u30 ((ztg_lv u28) + r31)).1
            let u35 := (zt_read u30 ((ztg_lv u28) + r31)).2
            let r38 := (zt_push u35 r36 4 10).1
            let u37 := (zt_push u35 r36 4 10).2
            (r38, u37))
          else (
            let r34 := (zt_store u30 ((ztg_lv u28) + r31) 4 11).1
            let u33 := (zt_store u30 ((ztg_lv u28) + r31) 4 11).2
            (r34, u33)))
        else (
          (0, u28)))
      else (
        let u39 := zts_unknown u1 1
        if (ztg_amiss u39) = 0 then (
          (0, u39))
        else (
          (0, u39)))))
  else (
    let u4 := zts_unknown u1 0
    if (ztg_amiss u4) = 0 then (
      let r7 := (zt_pair u4 ((ztg_pc u4) + 2)).1
      let u6 := (zt_pair u4 ((ztg_pc u4) + 2)).2
      if r2 = 21 then (
        let r12 := (zt_read u6 ((ztg_lv u4) + r7)).1
        let u11 := (zt_read u6 ((ztg_lv u4) + r7)).2
        let r14 := (zt_push u11 r12 4 10).1
        let u13 := (zt_push u11 r12 4 10).2
        (r14, u13))
      else (
        let r10 := (zt_store u6 ((ztg_lv u4) + r7) 4 11).1
        let u9 := (zt_store u6 ((ztg_lv u4) + r7) 4 11).2
        (r10, u9)))
    else (
      (0, u4)))
set_option maxHeartbeats 4000000 in
set_option maxRecDepth 100000 in
theorem ztM_wide (l : Launch) (k : Ztk) (Dk : ZtD k) (u : Zts) {w0 : Nat → Int32} (hN : ZtG w0 4 u) : Met l yX1_wide (.code yX1_wide cX1_wide 3 (some .int) :: zwT) (zrm 3) (ZtB k [.ref (zta_this k)] u) (ZtQ k (some (.int (zt_wide u ).1)) (zt_wide u ).2) 0 0 (ZtA k) := by
  refine ztE_in (by decide) rfl (Nat.le_of_ble_eq_true rfl) Dk ?_
  intro p e s m below meth c ls C hr hlk hP hl
  have hx := C.1.1
  have hb := C.1.2.1
  have hl : lv_has ls 3 [(0, .ref (zta_this k))] := hl
  have hS : va_S (ZtA k) s.heap s.heap [] := va_S.rf
  refine lv_aload_n hx hb dX1_wide_0 rfl (lv_at hl 0 rfl) ?_
  refine lv_aload_n hx hb dX1_wide_1 rfl (lv_at hl 0 rfl) ?_
  refine ztG_pc C hP dX1_wide_2 ?_
  refine lv_iconst (v := 1) hx hb dX1_wide_5 (by decide) ?_
  refine lv_iadd hx hb dX1_wide_6 ?_
  refine ztK_byteAt C hP hS hl.1 (by decide) (Nat.le_of_ble_eq_true rfl) dX1_wide_7 (fun r2 u1 H locs hr2 hu1 hP hS => ?_)
  refine lv_istore_n (lv' := [(1, .int r2), (0, .ref (zta_this k))]) hx hb dX1_wide_10 rfl hl (by decide) rfl (fun ls hl => ?_)
  refine lv_aload_n hx hb dX1_wide_11 rfl (lv_at hl 1 rfl) ?_
  refine lv_aload_n hx hb dX1_wide_12 rfl (lv_at hl 1 rfl) ?_
  refine ztG_amiss C hP dX1_wide_13 ?_
  refine lv_if_ne (tgt := 35) hx hb dX1_wide_16 (by decide) (fun c3 => ?_) (fun c3 => ?_)
  · refine lv_iconst (v := 0) hx hb dX1_wide_35 (by decide) ?_
    refine ztP_unknown C hP hS rfl rfl dX1_wide_36 (fun u4 H locs hu4 hP hS => ?_)
    refine lv_aload_n hx hb dX1_wide_39 rfl (lv_at hl 1 rfl) ?_
    refine ztG_amiss C hP dX1_wide_40 ?_
    refine lv_if_ne (tgt := 53) hx hb dX1_wide_43 (by decide) (fun c5 => ?_) (fun c5 => ?_)
    · refine lv_iconst (v := 0) hx hb dX1_wide_53 (by decide) ?_
      exact zt_iret C hr hlk hP hS (by subst hr2 hu1 hu4; exact (if_neg c3).trans ((if_neg c5).trans (rfl))) dX1_wide_54
    · refine lv_aload_n hx hb dX1_wide_46 rfl (lv_at hl 1 rfl) ?_
      refine ztG_unknown C hP dX1_wide_47 ?_
      refine lv_if_eq (tgt := 55) hx hb dX1_wide_50 (by decide) (fun _ => ?_) (fun q => absurd (show ¬ ((0 : Int32) = 0) by subst hr2 hu1 hu4; exact q) (by decide))
      refine lv_aload_n hx hb dX1_wide_55 rfl (lv_at hl 1 rfl) ?_
      refine ztG_lv C hP dX1_wide_56 ?_
      refine lv_aload_n hx hb dX1_wide_59 rfl (lv_at hl 1 rfl) ?_
      refine lv_aload_n hx hb dX1_wide_60 rfl (lv_at hl 1 rfl) ?_
      refine ztG_pc C hP dX1_wide_61 ?_
      refine lv_iconst (v := 2) hx hb dX1_wide_64 (by decide) ?_
      refine lv_iadd hx hb dX1_wide_65 ?_
      refine ztK_pair C hP hS hl.1 (by decide) (Nat.le_of_ble_eq_true rfl) dX1_wide_66 (fun r7 u6 H locs hr7 hu6 hP hS => ?_)
      refine lv_iadd hx hb dX1_wide_69 ?_
      refine lv_istore_n (lv' := [(2, .int ((ztg_lv u4) + r7)), (1, .int r2), (0, .ref (zta_this k))]) hx hb dX1_wide_70 rfl hl (by decide) rfl (fun ls hl => ?_)
      refine lv_iload_n hx hb dX1_wide_71 rfl (lv_at hl 1 rfl) ?_
      refine lv_bipush (v := 21) hx hb dX1_wide_72 (by decide) ?_
      refine lv_icmp_ne (tgt := 92) hx hb dX1_wide_74 (by decide) (fun c8 => ?_) (fun c8 => ?_)
      · refine lv_aload_n hx hb dX1_wide_92 rfl (lv_at hl 2 rfl) ?_
        refine lv_iload_n hx hb dX1_wide_93 rfl (lv_at hl 0 rfl) ?_
        refine lv_iconst (v := 4) hx hb dX1_wide_94 (by decide) ?_
        refine lv_bipush (v := 11) hx hb dX1_wide_95 (by decide) ?_
        refine ztK_store C hP hS hl.1 (by decide) (Nat.le_of_ble_eq_true rfl) (by subst hr2 hu1 hu4 hr7 hu6; exact zt_Gle (by decide) (zt_G_pair _ (zt_Gs_unknown _ (zt_G_byteAt _ (hN))))) dX1_wide_97 (fun r10 u9 H locs hr10 hu9 hP hS => ?_)
        exact zt_iret C hr hlk hP hS (by subst hr2 hu1 hu4 hr7 hu6 hr10 hu9; exact (if_neg c3).trans ((if_pos c5).trans ((if_neg c8).trans (rfl)))) dX1_wide_100
      · refine lv_aload_n hx hb dX1_wide_77 rfl (lv_at hl 2 rfl) ?_
        refine lv_aload_n hx hb dX1_wide_78 rfl (lv_at hl 2 rfl) ?_
        refine lv_iload_n hx hb dX1_wide_79 rfl (lv_at hl 0 rfl) ?_
        refine ztK_read C hP hS hl.1 (by decide) (Nat.le_of_ble_eq_true rfl) dX1_wide_80 (fun r12 u11 H locs hr12 hu11 hP hS => ?_)
        refine lv_iconst (v := 4) hx hb dX1_wide_83 (by decide) ?_
        refine lv_bipush (v := 10) hx hb dX1_wide_84 (by decide) ?_
        refine ztK_push C hP hS hl.1 (by decide) (Nat.le_of_ble_eq_true rfl) (by subst hr2 hu1 hu4 hr7 hu6 hr12 hu11; exact zt_Gle (by decide) (zt_G_read _ (zt_G_pair _ (zt_Gs_unknown _ (zt_G_byteAt _ (hN)))))) dX1_wide_86 (fun r14 u13 H locs hr14 hu13 hP hS => ?_)
        refine lv_goto (tgt := 100) hx hb dX1_wide_89 (by decide) ?_
        exact zt_iret C hr hlk hP hS (by subst hr2 hu1 hu4 hr7 hu6 hr12 hu11 hr14 hu13; exact (if_neg c3).trans ((if_pos c5).trans ((if_pos c8).trans (rfl)))) dX1_wide_100
  · refine lv_iload_n hx hb dX1_wide_19 rfl (lv_at hl 0 rfl) ?_
    refine lv_bipush (v := 21) hx hb dX1_wide_20 (by decide) ?_
    refine lv_icmp_eq (tgt := 35) hx hb dX1_wide_22 (by decide) (fun c15 => ?_) (fun c15 => ?_)
    · refine lv_iconst (v := 0) hx hb dX1_wide_35 (by decide) ?_
      refine ztP_unknown C hP hS rfl rfl dX1_wide_36 (fun u16 H locs hu16 hP hS => ?_)
      refine lv_aload_n hx hb dX1_wide_39 rfl (lv_at hl 1 rfl) ?_
      refine ztG_amiss C hP dX1_wide_40 ?_
      refine lv_if_ne (tgt := 53) hx hb dX1_wide_43 (by decide) (fun c17 => ?_) (fun c17 => ?_)
      · refine lv_iconst (v := 0) hx hb dX1_wide_53 (by decide) ?_
        exact zt_iret C hr hlk hP hS (by subst hr2 hu1 hu16; exact (if_pos c3).trans ((if_pos c15).trans ((if_neg c17).trans (rfl)))) dX1_wide_54
      · refine lv_aload_n hx hb dX1_wide_46 rfl (lv_at hl 1 rfl) ?_
        refine ztG_unknown C hP dX1_wide_47 ?_
        refine lv_if_eq (tgt := 55) hx hb dX1_wide_50 (by decide) (fun _ => ?_) (fun q => absurd (show ¬ ((0 : Int32) = 0) by subst hr2 hu1 hu16; exact q) (by decide))
        refine lv_aload_n hx hb dX1_wide_55 rfl (lv_at hl 1 rfl) ?_
        refine ztG_lv C hP dX1_wide_56 ?_
        refine lv_aload_n hx hb dX1_wide_59 rfl (lv_at hl 1 rfl) ?_
        refine lv_aload_n hx hb dX1_wide_60 rfl (lv_at hl 1 rfl) ?_
        refine ztG_pc C hP dX1_wide_61 ?_
        refine lv_iconst (v := 2) hx hb dX1_wide_64 (by decide) ?_
        refine lv_iadd hx hb dX1_wide_65 ?_
        refine ztK_pair C hP hS hl.1 (by decide) (Nat.le_of_ble_eq_true rfl) dX1_wide_66 (fun r19 u18 H locs hr19 hu18 hP hS => ?_)
        refine lv_iadd hx hb dX1_wide_69 ?_
        refine lv_istore_n (lv' := [(2, .int ((ztg_lv u16) + r19)), (1, .int r2), (0, .ref (zta_this k))]) hx hb dX1_wide_70 rfl hl (by decide) rfl (fun ls hl => ?_)
        refine lv_iload_n hx hb dX1_wide_71 rfl (lv_at hl 1 rfl) ?_
        refine lv_bipush (v := 21) hx hb dX1_wide_72 (by decide) ?_
        refine lv_icmp_ne (tgt := 92) hx hb dX1_wide_74 (by decide) (fun c20 => ?_) (fun c20 => ?_)
        · refine lv_aload_n hx hb dX1_wide_92 rfl (lv_at hl 2 rfl) ?_
          refine lv_iload_n hx hb dX1_wide_93 rfl (lv_at hl 0 rfl) ?_
          refine lv_iconst (v := 4) hx hb dX1_wide_94 (by decide) ?_
          refine lv_bipush (v := 11) hx hb dX1_wide_95 (by decide) ?_
          refine ztK_store C hP hS hl.1 (by decide) (Nat.le_of_ble_eq_true rfl) (by subst hr2 hu1 hu16 hr19 hu18; exact zt_Gle (by decide) (zt_G_pair _ (zt_Gs_unknown _ (zt_G_byteAt _ (hN))))) dX1_wide_97 (fun r22 u21 H locs hr22 hu21 hP hS => ?_)
          exact zt_iret C hr hlk hP hS (by subst hr2 hu1 hu16 hr19 hu18 hr22 hu21; exact (if_pos c3).trans ((if_pos c15).trans ((if_pos c17).trans ((if_neg c20).trans (rfl))))) dX1_wide_100
        · refine lv_aload_n hx hb dX1_wide_77 rfl (lv_at hl 2 rfl) ?_
          refine lv_aload_n hx hb dX1_wide_78 rfl (lv_at hl 2 rfl) ?_
          refine lv_iload_n hx hb dX1_wide_79 rfl (lv_at hl 0 rfl) ?_
          refine ztK_read C hP hS hl.1 (by decide) (Nat.le_of_ble_eq_true rfl) dX1_wide_80 (fun r24 u23 H locs hr24 hu23 hP hS => ?_)
          refine lv_iconst (v := 4) hx hb dX1_wide_83 (by decide) ?_
          refine lv_bipush (v := 10) hx hb dX1_wide_84 (by decide) ?_
          refine ztK_push C hP hS hl.1 (by decide) (Nat.le_of_ble_eq_true rfl) (by subst hr2 hu1 hu16 hr19 hu18 hr24 hu23; exact zt_Gle (by decide) (zt_G_read _ (zt_G_pair _ (zt_Gs_unknown _ (zt_G_byteAt _ (hN)))))) dX1_wide_86 (fun r26 u25 H locs hr26 hu25 hP hS => ?_)
          refine lv_goto (tgt := 100) hx hb dX1_wide_89 (by decide) ?_
          exact zt_iret C hr hlk hP hS (by subst hr2 hu1 hu16 hr19 hu18 hr24 hu23 hr26 hu25; exact (if_pos c3).trans ((if_pos c15).trans ((if_pos c17).trans ((if_pos c20).trans (rfl))))) dX1_wide_100
    · refine lv_iload_n hx hb dX1_wide_25 rfl (lv_at hl 0 rfl) ?_
      refine lv_bipush (v := 54) hx hb dX1_wide_26 (by decide) ?_
      refine lv_icmp_eq (tgt := 35) hx hb dX1_wide_28 (by decide) (fun c27 => ?_) (fun c27 => ?_)
      · refine lv_iconst (v := 0) hx hb dX1_wide_35 (by decide) ?_
        refine ztP_unknown C hP hS rfl rfl dX1_wide_36 (fun u28 H locs hu28 hP hS => ?_)
        refine lv_aload_n hx hb dX1_wide_39 rfl (lv_at hl 1 rfl) ?_
        refine ztG_amiss C hP dX1_wide_40 ?_
        refine lv_if_ne (tgt := 53) hx hb dX1_wide_43 (by decide) (fun c29 => ?_) (fun c29 => ?_)
        · refine lv_iconst (v := 0) hx hb dX1_wide_53 (by decide) ?_
          exact zt_iret C hr hlk hP hS (by subst hr2 hu1 hu28; exact (if_pos c3).trans ((if_neg c15).trans ((if_pos c27).trans ((if_neg c29).trans (rfl))))) dX1_wide_54
        · refine lv_aload_n hx hb dX1_wide_46 rfl (lv_at hl 1 rfl) ?_
          refine ztG_unknown C hP dX1_wide_47 ?_
          refine lv_if_eq (tgt := 55) hx hb dX1_wide_50 (by decide) (fun _ => ?_) (fun q => absurd (show ¬ ((0 : Int32) = 0) by subst hr2 hu1 hu28; exact q) (by decide))
          refine lv_aload_n hx hb dX1_wide_55 rfl (lv_at hl 1 rfl) ?_
          refine ztG_lv C hP dX1_wide_56 ?_
          refine lv_aload_n hx hb dX1_wide_59 rfl (lv_at hl 1 rfl) ?_
          refine lv_aload_n hx hb dX1_wide_60 rfl (lv_at hl 1 rfl) ?_
          refine ztG_pc C hP dX1_wide_61 ?_
          refine lv_iconst (v := 2) hx hb dX1_wide_64 (by decide) ?_
          refine lv_iadd hx hb dX1_wide_65 ?_
          refine ztK_pair C hP hS hl.1 (by decide) (Nat.le_of_ble_eq_true rfl) dX1_wide_66 (fun r31 u30 H locs hr31 hu30 hP hS => ?_)
          refine lv_iadd hx hb dX1_wide_69 ?_
          refine lv_istore_n (lv' := [(2, .int ((ztg_lv u28) + r31)), (1, .int r2), (0, .ref (zta_this k))]) hx hb dX1_wide_70 rfl hl (by decide) rfl (fun ls hl => ?_)
          refine lv_iload_n hx hb dX1_wide_71 rfl (lv_at hl 1 rfl) ?_
          refine lv_bipush (v := 21) hx hb dX1_wide_72 (by decide) ?_
          refine lv_icmp_ne (tgt := 92) hx hb dX1_wide_74 (by decide) (fun c32 => ?_) (fun c32 => ?_)
          · refine lv_aload_n hx hb dX1_wide_92 rfl (lv_at hl 2 rfl) ?_
            refine lv_iload_n hx hb dX1_wide_93 rfl (lv_at hl 0 rfl) ?_
            refine lv_iconst (v := 4) hx hb dX1_wide_94 (by decide) ?_
            refine lv_bipush (v := 11) hx hb dX1_wide_95 (by decide) ?_
            refine ztK_store C hP hS hl.1 (by decide) (Nat.le_of_ble_eq_true rfl) (by subst hr2 hu1 hu28 hr31 hu30; exact zt_Gle (by decide) (zt_G_pair _ (zt_Gs_unknown _ (zt_G_byteAt _ (hN))))) dX1_wide_97 (fun r34 u33 H locs hr34 hu33 hP hS => ?_)
            exact zt_iret C hr hlk hP hS (by subst hr2 hu1 hu28 hr31 hu30 hr34 hu33; exact (if_pos c3).trans ((if_neg c15).trans ((if_pos c27).trans ((if_pos c29).trans ((if_neg c32).trans (rfl)))))) dX1_wide_100
          · refine lv_aload_n hx hb dX1_wide_77 rfl (lv_at hl 2 rfl) ?_
            refine lv_aload_n hx hb dX1_wide_78 rfl (lv_at hl 2 rfl) ?_
            refine lv_iload_n hx hb dX1_wide_79 rfl (lv_at hl 0 rfl) ?_
            refine ztK_read C hP hS hl.1 (by decide) (Nat.le_of_ble_eq_true rfl) dX1_wide_80 (fun r36 u35 H locs hr36 hu35 hP hS => ?_)
            refine lv_iconst (v := 4) hx hb dX1_wide_83 (by decide) ?_
            refine lv_bipush (v := 10) hx hb dX1_wide_84 (by decide) ?_
            refine ztK_push C hP hS hl.1 (by decide) (Nat.le_of_ble_eq_true rfl) (by subst hr2 hu1 hu28 hr31 hu30 hr36 hu35; exact zt_Gle (by decide) (zt_G_read _ (zt_G_pair _ (zt_Gs_unknown _ (zt_G_byteAt _ (hN)))))) dX1_wide_86 (fun r38 u37 H locs hr38 hu37 hP hS => ?_)
            refine lv_goto (tgt := 100) hx hb dX1_wide_89 (by decide) ?_
            exact zt_iret C hr hlk hP hS (by subst hr2 hu1 hu28 hr31 hu30 hr36 hu35 hr38 hu37; exact (if_pos c3).trans ((if_neg c15).trans ((if_pos c27).trans ((if_pos c29).trans ((if_pos c32).trans (rfl)))))) dX1_wide_100
      · refine lv_iconst (v := 1) hx hb dX1_wide_31 (by decide) ?_
        refine lv_goto (tgt := 36) hx hb dX1_wide_32 (by decide) ?_
        refine ztP_unknown C hP hS rfl rfl dX1_wide_36 (fun u39 H locs hu39 hP hS => ?_)
        refine lv_aload_n hx hb dX1_wide_39 rfl (lv_at hl 1 rfl) ?_
        refine ztG_amiss C hP dX1_wide_40 ?_
        refine lv_if_ne (tgt := 53) hx hb dX1_wide_43 (by decide) (fun c40 => ?_) (fun c40 => ?_)
        · refine lv_iconst (v := 0) hx hb dX1_wide_53 (by decide) ?_
          exact zt_iret C hr hlk hP hS (by subst hr2 hu1 hu39; exact (if_pos c3).trans ((if_neg c15).trans ((if_neg c27).trans ((if_neg c40).trans (rfl))))) dX1_wide_54
        · refine lv_aload_n hx hb dX1_wide_46 rfl (lv_at hl 1 rfl) ?_
          refine ztG_unknown C hP dX1_wide_47 ?_
          refine lv_if_eq (tgt := 55) hx hb dX1_wide_50 (by decide) (fun q => absurd (show (1 : Int32) = 0 by subst hr2 hu1 hu39; exact q) (by decide)) (fun _ => ?_)
          refine lv_iconst (v := 0) hx hb dX1_wide_53 (by decide) ?_
          exact zt_iret C hr hlk hP hS (by subst hr2 hu1 hu39; exact (if_pos c3).trans ((if_neg c15).trans ((if_neg c27).trans ((if_pos c40).trans (rfl))))) dX1_wide_54
section
variable {p : Program} {l : Launch} {e : Env} {R : Room} {s : State} {m : MethodId} {args : Array Value} {below : List Frame} {meth : Method} {c : Code} {H : Heap} {locs : List Loc} {Q : State → Prop} {cc : ByteArray} {pc nL : Nat} {ls : Array Slot} {rest : List Value} {k : Ztk} {u : Zts} {H0 : Heap}
set_option maxHeartbeats 4000000 in
set_option maxRecDepth 100000 in
theorem ztK_wide (C : ZtC p s m args c cc nL k) (hP : ZtP k u H) (hS : va_S (ZtA k) H0 H locs) (hsz : ls.size = nL) (hR : 3 + 1 ≤ R.frames ∧ 8 + (3 + 11) + 40 * 3 ≤ R.locals) (hw : (rest.map fun v => v.category).sum ≤ 8) {w0 : Nat → Int32} (hN : ZtG w0 4 u) (hdg : decode cc pc = .ok (.invokevirtual 103, 3)) (kk : ∀ (r1 : Int32) (u1 : Zts) (H1 : Heap) (locs1 : List Loc), r1 = (zt_wide u ).1 → u1 = (zt_wide u ).2 → ZtP k u1 H1 → va_S (ZtA k) H0 H1 locs1 → W p l e R s m args below meth c H1 locs1 0 0 Q (F0 m (pc + 3) ls (.int r1 :: rest))) : W p l e R s m args below meth c H locs 0 0 Q (F0 m pc ls (.ref (zta_this k) :: rest)) :=
  zt_callV (y := yX1_wide) (n := 0) (As := []) C (ztM_wide l k C.2.2 u  hN) zwT_c_wide zwT_l_wide zwT_i_wide zwT_v_wide rfl (by decide +kernel) hP hS hsz hR hw rfl hdg (fun H1 locs1 hP1 hS1 => kk _ _ H1 locs1 rfl rfl hP1 hS1)
end
theorem zt_G_wide {w0 : Nat → Int32} {n : Nat} {u : Zts} (hn : n ≤ 4) (h : ZtG w0 n u) : ZtG w0 (n + 1) (zt_wide u ).2 := by
  unfold zt_wide
  dsimp only
  repeat' split
  all_goals first | exact zt_Gle (by omega) (zt_Gs_unknown _ (zt_G_byteAt _ (h))) | exact zt_Gle (by omega) (zt_G_store _ _ _ (by omega) (zt_G_pair _ (zt_Gs_unknown _ (zt_G_byteAt _ (h))))) | exact zt_Gle (by omega) (zt_G_push _ _ _ (by omega) (zt_G_read _ (zt_G_pair _ (zt_Gs_unknown _ (zt_G_byteAt _ (h))))))
def zt_increase (u : Zts) : Int32 × Zts :=
  let r2 := (zt_byteAt u ((ztg_pc u) + 1)).1
  let u1 := (zt_byteAt u ((ztg_pc u) + 1)).2
  let r4 := (zt_byteAt u1 ((ztg_pc u1) + 2)).1
  let u3 := (zt_byteAt u1 ((ztg_pc u1) + 2)).2
  let r6 := (zt_read u3 ((ztg_lv u) + r2)).1
  let u5 := (zt_read u3 ((ztg_lv u) + r2)).2
  let u7 := zt_write u5 ((ztg_lv u) + r2) (r6 + (zt_signed r4 8))
  let u8 := zts_next u7 ((ztg_pc u7) + 3)
  (7, u8)
set_option maxHeartbeats 4000000 in
set_option maxRecDepth 100000 in
theorem ztM_increase (l : Launch) (k : Ztk) (Dk : ZtD k) (u : Zts) {w0 : Nat → Int32} (hN : ZtG w0 4 u) : Met l yX1_increase (.code yX1_increase cX1_increase 3 (some .int) :: zwT) (zrm 2) (ZtB k [.ref (zta_this k)] u) (ZtQ k (some (.int (zt_increase u ).1)) (zt_increase u ).2) 0 0 (ZtA k) := by
  refine ztE_in (by decide) rfl (Nat.le_of_ble_eq_true rfl) Dk ?_
  intro p e s m below meth c ls C hr hlk hP hl
  have hx := C.1.1
  have hb := C.1.2.1
  have hl : lv_has ls 3 [(0, .ref (zta_this k))] := hl
  have hS : va_S (ZtA k) s.heap s.heap [] := va_S.rf
  refine lv_aload_n hx hb dX1_increase_0 rfl (lv_at hl 0 rfl) ?_
  refine ztG_lv C hP dX1_increase_1 ?_
  refine lv_aload_n hx hb dX1_increase_4 rfl (lv_at hl 0 rfl) ?_
  refine lv_aload_n hx hb dX1_increase_5 rfl (lv_at hl 0 rfl) ?_
  refine ztG_pc C hP dX1_increase_6 ?_
  refine lv_iconst (v := 1) hx hb dX1_increase_9 (by decide) ?_
  refine lv_iadd hx hb dX1_increase_10 ?_
  refine ztK_byteAt C hP hS hl.1 (by decide) (Nat.le_of_ble_eq_true rfl) dX1_increase_11 (fun r2 u1 H locs hr2 hu1 hP hS => ?_)
  refine lv_iadd hx hb dX1_increase_14 ?_
  refine lv_istore_n (lv' := [(1, .int ((ztg_lv u) + r2)), (0, .ref (zta_this k))]) hx hb dX1_increase_15 rfl hl (by decide) rfl (fun ls hl => ?_)
  refine lv_aload_n hx hb dX1_increase_16 rfl (lv_at hl 1 rfl) ?_
  refine lv_aload_n hx hb dX1_increase_17 rfl (lv_at hl 1 rfl) ?_
  refine ztG_pc C hP dX1_increase_18 ?_
  refine lv_iconst (v := 2) hx hb dX1_increase_21 (by decide) ?_
  refine lv_iadd hx hb dX1_increase_22 ?_
  refine ztK_byteAt C hP hS hl.1 (by decide) (Nat.le_of_ble_eq_true rfl) dX1_increase_23 (fun r4 u3 H locs hr4 hu3 hP hS => ?_)
  refine lv_bipush (v := 8) hx hb dX1_increase_26 (by decide) ?_
  refine ztK_signed C hl.1 (by decide) (Nat.le_of_ble_eq_true rfl) dX1_increase_28 ?_
  refine lv_istore_n (lv' := [(2, .int (zt_signed r4 8)), (1, .int ((ztg_lv u) + r2)), (0, .ref (zta_this k))]) hx hb dX1_increase_31 rfl hl (by decide) rfl (fun ls hl => ?_)
  refine lv_aload_n hx hb dX1_increase_32 rfl (lv_at hl 2 rfl) ?_
  refine lv_iload_n hx hb dX1_increase_33 rfl (lv_at hl 1 rfl) ?_
  refine lv_aload_n hx hb dX1_increase_34 rfl (lv_at hl 2 rfl) ?_
  refine lv_iload_n hx hb dX1_increase_35 rfl (lv_at hl 1 rfl) ?_
  refine ztK_read C hP hS hl.1 (by decide) (Nat.le_of_ble_eq_true rfl) dX1_increase_36 (fun r6 u5 H locs hr6 hu5 hP hS => ?_)
  refine lv_iload_n hx hb dX1_increase_39 rfl (lv_at hl 0 rfl) ?_
  refine lv_iadd hx hb dX1_increase_40 ?_
  refine ztK_write C hP hS hl.1 (by decide) (Nat.le_of_ble_eq_true rfl) (by subst hr2 hu1 hr4 hu3 hr6 hu5; exact zt_Gle (by decide) (zt_G_read _ (zt_G_byteAt _ (zt_G_byteAt _ (hN))))) dX1_increase_41 (fun u7 H locs hu7 hP hS => ?_)
  refine lv_aload_n hx hb dX1_increase_44 rfl (lv_at hl 2 rfl) ?_
  refine lv_aload_n hx hb dX1_increase_45 rfl (lv_at hl 2 rfl) ?_
  refine ztG_pc C hP dX1_increase_46 ?_
  refine lv_iconst (v := 3) hx hb dX1_increase_49 (by decide) ?_
  refine lv_iadd hx hb dX1_increase_50 ?_
  refine ztP_next C hP hS dX1_increase_51 (fun u8 H locs hu8 hP hS => ?_)
  refine lv_bipush (v := 7) hx hb dX1_increase_54 (by decide) ?_
  exact zt_iret C hr hlk hP hS (by subst hr2 hu1 hr4 hu3 hr6 hu5 hu7 hu8; exact rfl) dX1_increase_56
section
variable {p : Program} {l : Launch} {e : Env} {R : Room} {s : State} {m : MethodId} {args : Array Value} {below : List Frame} {meth : Method} {c : Code} {H : Heap} {locs : List Loc} {Q : State → Prop} {cc : ByteArray} {pc nL : Nat} {ls : Array Slot} {rest : List Value} {k : Ztk} {u : Zts} {H0 : Heap}
set_option maxHeartbeats 4000000 in
set_option maxRecDepth 100000 in
theorem ztK_increase (C : ZtC p s m args c cc nL k) (hP : ZtP k u H) (hS : va_S (ZtA k) H0 H locs) (hsz : ls.size = nL) (hR : 2 + 1 ≤ R.frames ∧ 8 + (3 + 11) + 40 * 2 ≤ R.locals) (hw : (rest.map fun v => v.category).sum ≤ 8) {w0 : Nat → Int32} (hN : ZtG w0 4 u) (hdg : decode cc pc = .ok (.invokevirtual 106, 3)) (kk : ∀ (r1 : Int32) (u1 : Zts) (H1 : Heap) (locs1 : List Loc), r1 = (zt_increase u ).1 → u1 = (zt_increase u ).2 → ZtP k u1 H1 → va_S (ZtA k) H0 H1 locs1 → W p l e R s m args below meth c H1 locs1 0 0 Q (F0 m (pc + 3) ls (.int r1 :: rest))) : W p l e R s m args below meth c H locs 0 0 Q (F0 m pc ls (.ref (zta_this k) :: rest)) :=
  zt_callV (y := yX1_increase) (n := 0) (As := []) C (ztM_increase l k C.2.2 u  hN) zwT_c_increase zwT_l_increase zwT_i_increase zwT_v_increase rfl (by decide +kernel) hP hS hsz hR hw rfl hdg (fun H1 locs1 hP1 hS1 => kk _ _ H1 locs1 rfl rfl hP1 hS1)
end
theorem zt_G_increase {w0 : Nat → Int32} {n : Nat} {u : Zts} (hn : n ≤ 4) (h : ZtG w0 n u) : ZtG w0 (n + 1) (zt_increase u ).2 := by
  unfold zt_increase
  dsimp only
  repeat' split
  all_goals first | exact zt_Gle (by omega) (zt_Gs_next _ (zt_G_write _ _ (by omega) (zt_G_read _ (zt_G_byteAt _ (zt_G_byteAt _ (h))))))
def zt_jump (u : Zts) (a1 a2 a3 : Int32) : Int32 × Zts :=
  if a1 = 0 then (
    let u2 := zts_next u ((ztg_pc u) + 3)
    if a1 = 0 then (
      (a3, u2))
    else (
      (a2, u2)))
  else (
    let r5 := (zt_pair u ((ztg_pc u) + 1)).1
    let u4 := (zt_pair u ((ztg_pc u) + 1)).2
    let u6 := zts_next u4 ((ztg_pc u) + (zt_signed r5 16))
    if a1 = 0 then (
      (a3, u6))
    else (
      (a2, u6)))
set_option maxHeartbeats 4000000 in
set_option maxRecDepth 100000 in
theorem ztM_jump (l : Launch) (k : Ztk) (Dk : ZtD k) (u : Zts) (a1 a2 a3 : Int32) : Met l yX1_jump (.code yX1_jump cX1_jump 4 (some .int) :: zwT) (zrm 2) (ZtB k [.ref (zta_this k), .int a1, .int a2, .int a3] u) (ZtQ k (some (.int (zt_jump u a1 a2 a3).1)) (zt_jump u a1 a2 a3).2) 0 0 (ZtA k) := by
  refine ztE_in (by decide) rfl (Nat.le_of_ble_eq_true rfl) Dk ?_
  intro p e s m below meth c ls C hr hlk hP hl
  have hx := C.1.1
  have hb := C.1.2.1
  have hl : lv_has ls 4 [(0, .ref (zta_this k)), (1, .int a1), (2, .int a2), (3, .int a3)] := hl
  have hS : va_S (ZtA k) s.heap s.heap [] := va_S.rf
  refine lv_aload_n hx hb dX1_jump_0 rfl (lv_at hl 0 rfl) ?_
  refine lv_iload_n hx hb dX1_jump_1 rfl (lv_at hl 1 rfl) ?_
  refine lv_if_eq (tgt := 28) hx hb dX1_jump_2 (by decide) (fun c1 => ?_) (fun c1 => ?_)
  · refine lv_aload_n hx hb dX1_jump_28 rfl (lv_at hl 0 rfl) ?_
    refine ztG_pc C hP dX1_jump_29 ?_
    refine lv_iconst (v := 3) hx hb dX1_jump_32 (by decide) ?_
    refine lv_iadd hx hb dX1_jump_33 ?_
    refine ztP_next C hP hS dX1_jump_34 (fun u2 H locs hu2 hP hS => ?_)
    refine lv_iload_n hx hb dX1_jump_37 rfl (lv_at hl 1 rfl) ?_
    refine lv_if_eq (tgt := 45) hx hb dX1_jump_38 (by decide) (fun c3 => ?_) (fun c3 => ?_)
    · refine lv_iload_n hx hb dX1_jump_45 rfl (lv_at hl 3 rfl) ?_
      exact zt_iret C hr hlk hP hS (by subst hu2; exact (if_pos c1).trans ((if_pos c3).trans (rfl))) dX1_jump_46
    · refine lv_iload_n hx hb dX1_jump_41 rfl (lv_at hl 2 rfl) ?_
      refine lv_goto (tgt := 46) hx hb dX1_jump_42 (by decide) ?_
      exact zt_iret C hr hlk hP hS (by subst hu2; exact (if_pos c1).trans ((if_neg c3).trans (rfl))) dX1_jump_46
  · refine lv_aload_n hx hb dX1_jump_5 rfl (lv_at hl 0 rfl) ?_
    refine ztG_pc C hP dX1_jump_6 ?_
    refine lv_aload_n hx hb dX1_jump_9 rfl (lv_at hl 0 rfl) ?_
    refine lv_aload_n hx hb dX1_jump_10 rfl (lv_at hl 0 rfl) ?_
    refine ztG_pc C hP dX1_jump_11 ?_
    refine lv_iconst (v := 1) hx hb dX1_jump_14 (by decide) ?_
    refine lv_iadd hx hb dX1_jump_15 ?_
    refine ztK_pair C hP hS hl.1 (by decide) (Nat.le_of_ble_eq_true rfl) dX1_jump_16 (fun r5 u4 H locs hr5 hu4 hP hS => ?_)
    refine lv_bipush (v := 16) hx hb dX1_jump_19 (by decide) ?_
    refine ztK_signed C hl.1 (by decide) (Nat.le_of_ble_eq_true rfl) dX1_jump_21 ?_
    refine lv_iadd hx hb dX1_jump_24 ?_
    refine lv_goto (tgt := 34) hx hb dX1_jump_25 (by decide) ?_
    refine ztP_next C hP hS dX1_jump_34 (fun u6 H locs hu6 hP hS => ?_)
    refine lv_iload_n hx hb dX1_jump_37 rfl (lv_at hl 1 rfl) ?_
    refine lv_if_eq (tgt := 45) hx hb dX1_jump_38 (by decide) (fun c7 => ?_) (fun c7 => ?_)
    · refine lv_iload_n hx hb dX1_jump_45 rfl (lv_at hl 3 rfl) ?_
      exact zt_iret C hr hlk hP hS (by subst hr5 hu4 hu6; exact (if_neg c1).trans ((if_pos c7).trans (rfl))) dX1_jump_46
    · refine lv_iload_n hx hb dX1_jump_41 rfl (lv_at hl 2 rfl) ?_
      refine lv_goto (tgt := 46) hx hb dX1_jump_42 (by decide) ?_
      exact zt_iret C hr hlk hP hS (by subst hr5 hu4 hu6; exact (if_neg c1).trans ((if_neg c7).trans (rfl))) dX1_jump_46
section
variable {p : Program} {l : Launch} {e : Env} {R : Room} {s : State} {m : MethodId} {args : Array Value} {below : List Frame} {meth : Method} {c : Code} {H : Heap} {locs : List Loc} {Q : State → Prop} {cc : ByteArray} {pc nL : Nat} {ls : Array Slot} {rest : List Value} {k : Ztk} {u : Zts} {H0 : Heap}
set_option maxHeartbeats 4000000 in
set_option maxRecDepth 100000 in
theorem ztK_jump {a1 a2 a3 : Int32} (C : ZtC p s m args c cc nL k) (hP : ZtP k u H) (hS : va_S (ZtA k) H0 H locs) (hsz : ls.size = nL) (hR : 2 + 1 ≤ R.frames ∧ 8 + (4 + 11) + 40 * 2 ≤ R.locals) (hw : (rest.map fun v => v.category).sum ≤ 8) (hdg : decode cc pc = .ok (.invokevirtual 92, 3)) (kk : ∀ (r1 : Int32) (u1 : Zts) (H1 : Heap) (locs1 : List Loc), r1 = (zt_jump u a1 a2 a3).1 → u1 = (zt_jump u a1 a2 a3).2 → ZtP k u1 H1 → va_S (ZtA k) H0 H1 locs1 → W p l e R s m args below meth c H1 locs1 0 0 Q (F0 m (pc + 3) ls (.int r1 :: rest))) : W p l e R s m args below meth c H locs 0 0 Q (F0 m pc ls (.int a3 :: .int a2 :: .int a1 :: .ref (zta_this k) :: rest)) :=
  zt_callV (y := yX1_jump) (n := 3) (As := [.int a1, .int a2, .int a3]) C (ztM_jump l k C.2.2 u a1 a2 a3 ) zwT_c_jump zwT_l_jump zwT_i_jump zwT_v_jump rfl (by decide +kernel) hP hS hsz hR hw rfl hdg (fun H1 locs1 hP1 hS1 => kk _ _ H1 locs1 rfl rfl hP1 hS1)
end
theorem zt_G_jump {w0 : Nat → Int32} {n : Nat} {u : Zts} (a1 a2 a3 : Int32) (h : ZtG w0 n u) : ZtG w0 (n + 0) (zt_jump u a1 a2 a3).2 := by
  unfold zt_jump
  dsimp only
  repeat' split
  all_goals first | exact zt_Gle (by omega) (zt_Gs_next _ (h)) | exact zt_Gle (by omega) (zt_Gs_next _ (zt_G_pair _ (h)))
def zt_ifs (u : Zts) (a1 : Int32) : Int32 × Zts :=
  if a1 = 159 then (
    let r46 := (zt_read u ((ztg_sp u) - 1)).1
    let u45 := (zt_read u ((ztg_sp u) - 1)).2
    if a1 = 159 then (
      let u69 := zts_sp u45 ((ztg_sp u45) - 2)
      let r71 := (zt_read u69 (ztg_sp u69)).1
      let u70 := (zt_read u69 (ztg_sp u69)).2
      let u72 := zts_top u70 r71
      if a1 = 159 then (
        if (ztg_top u) = r46 then (
          let r89 := (zt_jump u72 1 13 10).1
          let u88 := (zt_jump u72 1 13 10).2
          (r89, u88))
        else (
          let r87 := (zt_jump u72 0 13 10).1
          let u86 := (zt_jump u72 0 13 10).2
          (r87, u86)))
      else (
        if a1 = 155 then (
          if 0 ≤ (ztg_top u) then (
            let r82 := (zt_jump u72 0 11 8).1
            let u81 := (zt_jump u72 0 11 8).2
            (r82, u81))
          else (
            let r84 := (zt_jump u72 1 11 8).1
            let u83 := (zt_jump u72 1 11 8).2
            (r84, u83)))
        else (
          if (ztg_top u) = 0 then (
            let r79 := (zt_jump u72 1 11 8).1
            let u78 := (zt_jump u72 1 11 8).2
            (r79, u78))
          else (
            let r77 := (zt_jump u72 0 11 8).1
            let u76 := (zt_jump u72 0 11 8).2
            (r77, u76)))))
    else (
      let u48 := zts_sp u45 ((ztg_sp u45) - 1)
      let r50 := (zt_read u48 (ztg_sp u48)).1
      let u49 := (zt_read u48 (ztg_sp u48)).2
      let u51 := zts_top u49 r50
      if a1 = 159 then (
        if (ztg_top u) = r46 then (
          let r68 := (zt_jump u51 1 13 10).1
          let u67 := (zt_jump u51 1 13 10).2
          (r68, u67))
        else (
          let r66 := (zt_jump u51 0 13 10).1
          let u65 := (zt_jump u51 0 13 10).2
          (r66, u65)))
      else (
        if a1 = 155 then (
          if 0 ≤ (ztg_top u) then (
            let r61 := (zt_jump u51 0 11 8).1
            let u60 := (zt_jump u51 0 11 8).2
            (r61, u60))
          else (
            let r63 := (zt_jump u51 1 11 8).1
            let u62 := (zt_jump u51 1 11 8).2
            (r63, u62)))
        else (
          if (ztg_top u) = 0 then (
            let r58 := (zt_jump u51 1 11 8).1
            let u57 := (zt_jump u51 1 11 8).2
            (r58, u57))
          else (
            let r56 := (zt_jump u51 0 11 8).1
            let u55 := (zt_jump u51 0 11 8).2
            (r56, u55))))))
  else (
    if a1 = 159 then (
      let u24 := zts_sp u ((ztg_sp u) - 2)
      let r26 := (zt_read u24 (ztg_sp u24)).1
      let u25 := (zt_read u24 (ztg_sp u24)).2
      let u27 := zts_top u25 r26
      if a1 = 159 then (
        if (ztg_top u) = 0 then (
          let r44 := (zt_jump u27 1 13 10).1
          let u43 := (zt_jump u27 1 13 10).2
          (r44, u43))
        else (
          let r42 := (zt_jump u27 0 13 10).1
          let u41 := (zt_jump u27 0 13 10).2
          (r42, u41)))
      else (
        if a1 = 155 then (
          if 0 ≤ (ztg_top u) then (
            let r37 := (zt_jump u27 0 11 8).1
            let u36 := (zt_jump u27 0 11 8).2
            (r37, u36))
          else (
            let r39 := (zt_jump u27 1 11 8).1
            let u38 := (zt_jump u27 1 11 8).2
            (r39, u38)))
        else (
          if (ztg_top u) = 0 then (
            let r34 := (zt_jump u27 1 11 8).1
            let u33 := (zt_jump u27 1 11 8).2
            (r34, u33))
          else (
            let r32 := (zt_jump u27 0 11 8).1
            let u31 := (zt_jump u27 0 11 8).2
            (r32, u31)))))
    else (
      let u3 := zts_sp u ((ztg_sp u) - 1)
      let r5 := (zt_read u3 (ztg_sp u3)).1
      let u4 := (zt_read u3 (ztg_sp u3)).2
      let u6 := zts_top u4 r5
      if a1 = 159 then (
        if (ztg_top u) = 0 then (
          let r23 := (zt_jump u6 1 13 10).1
          let u22 := (zt_jump u6 1 13 10).2
          (r23, u22))
        else (
          let r21 := (zt_jump u6 0 13 10).1
          let u20 := (zt_jump u6 0 13 10).2
          (r21, u20)))
      else (
        if a1 = 155 then (
          if 0 ≤ (ztg_top u) then (
            let r16 := (zt_jump u6 0 11 8).1
            let u15 := (zt_jump u6 0 11 8).2
            (r16, u15))
          else (
            let r18 := (zt_jump u6 1 11 8).1
            let u17 := (zt_jump u6 1 11 8).2
            (r18, u17)))
        else (
          if (ztg_top u) = 0 then (
            let r13 := (zt_jump u6 1 11 8).1
            let u12 := (zt_jump u6 1 11 8).2
            (r13, u12))
          else (
            let r11 := (zt_jump u6 0 11 8).1
            let u10 := (zt_jump u6 0 11 8).2
            (r11, u10))))))
set_option maxHeartbeats 4000000 in
set_option maxRecDepth 100000 in
theorem ztM_ifs (l : Launch) (k : Ztk) (Dk : ZtD k) (u : Zts) (a1 : Int32) : Met l yX1_ifs (.code yX1_ifs cX1_ifs 4 (some .int) :: zwT) (zrm 3) (ZtB k [.ref (zta_this k), .int a1] u) (ZtQ k (some (.int (zt_ifs u a1).1)) (zt_ifs u a1).2) 0 0 (ZtA k) := by
  refine ztE_in (by decide) rfl (Nat.le_of_ble_eq_true rfl) Dk ?_
  intro p e s m below meth c ls C hr hlk hP hl
  have hx := C.1.1
  have hb := C.1.2.1
  have hl : lv_has ls 4 [(0, .ref (zta_this k)), (1, .int a1)] := hl
  have hS : va_S (ZtA k) s.heap s.heap [] := va_S.rf
  refine lv_aload_n hx hb dX1_ifs_0 rfl (lv_at hl 0 rfl) ?_
  refine ztG_top C hP dX1_ifs_1 ?_
  refine lv_istore_n (lv' := [(2, .int (ztg_top u)), (0, .ref (zta_this k)), (1, .int a1)]) hx hb dX1_ifs_4 rfl hl (by decide) rfl (fun ls hl => ?_)
  refine lv_iload_n hx hb dX1_ifs_5 rfl (lv_at hl 2 rfl) ?_
  refine lv_sipush (v := 159) hx hb dX1_ifs_6 (by decide) ?_
  refine lv_icmp_ne (tgt := 25) hx hb dX1_ifs_9 (by decide) (fun c1 => ?_) (fun c1 => ?_)
  · refine lv_iconst (v := 0) hx hb dX1_ifs_25 (by decide) ?_
    refine lv_istore_n (lv' := [(3, .int 0), (2, .int (ztg_top u)), (0, .ref (zta_this k)), (1, .int a1)]) hx hb dX1_ifs_26 rfl hl (by decide) rfl (fun ls hl => ?_)
    refine lv_aload_n hx hb dX1_ifs_27 rfl (lv_at hl 2 rfl) ?_
    refine lv_dup hx hb dX1_ifs_28 rfl ?_
    refine ztG_sp C hP dX1_ifs_29 ?_
    refine lv_iload_n hx hb dX1_ifs_32 rfl (lv_at hl 3 rfl) ?_
    refine lv_sipush (v := 159) hx hb dX1_ifs_33 (by decide) ?_
    refine lv_icmp_ne (tgt := 43) hx hb dX1_ifs_36 (by decide) (fun c2 => ?_) (fun c2 => ?_)
    · refine lv_iconst (v := 1) hx hb dX1_ifs_43 (by decide) ?_
      refine lv_isub hx hb dX1_ifs_44 ?_
      refine ztP_sp C hP hS dX1_ifs_45 (fun u3 H locs hu3 hP hS => ?_)
      refine lv_aload_n hx hb dX1_ifs_48 rfl (lv_at hl 2 rfl) ?_
      refine lv_aload_n hx hb dX1_ifs_49 rfl (lv_at hl 2 rfl) ?_
      refine lv_aload_n hx hb dX1_ifs_50 rfl (lv_at hl 2 rfl) ?_
      refine ztG_sp C hP dX1_ifs_51 ?_
      refine ztK_read C hP hS hl.1 (by decide) (Nat.le_of_ble_eq_true rfl) dX1_ifs_54 (fun r5 u4 H locs hr5 hu4 hP hS => ?_)
      refine ztP_top C hP hS dX1_ifs_57 (fun u6 H locs hu6 hP hS => ?_)
      refine lv_iload_n hx hb dX1_ifs_60 rfl (lv_at hl 3 rfl) ?_
      refine lv_sipush (v := 159) hx hb dX1_ifs_61 (by decide) ?_
      refine lv_icmp_ne (tgt := 86) hx hb dX1_ifs_64 (by decide) (fun c7 => ?_) (fun c7 => ?_)
      · refine lv_aload_n hx hb dX1_ifs_86 rfl (lv_at hl 2 rfl) ?_
        refine lv_iload_n hx hb dX1_ifs_87 rfl (lv_at hl 3 rfl) ?_
        refine lv_sipush (v := 155) hx hb dX1_ifs_88 (by decide) ?_
        refine lv_icmp_ne (tgt := 106) hx hb dX1_ifs_91 (by decide) (fun c8 => ?_) (fun c8 => ?_)
        · refine lv_iload_n hx hb dX1_ifs_106 rfl (lv_at hl 1 rfl) ?_
          refine lv_if_ne (tgt := 114) hx hb dX1_ifs_107 (by decide) (fun c9 => ?_) (fun c9 => ?_)
          · refine lv_iconst (v := 0) hx hb dX1_ifs_114 (by decide) ?_
            refine lv_bipush (v := 11) hx hb dX1_ifs_115 (by decide) ?_
            refine lv_bipush (v := 8) hx hb dX1_ifs_117 (by decide) ?_
            refine ztK_jump C hP hS hl.1 (by decide) (Nat.le_of_ble_eq_true rfl) dX1_ifs_119 (fun r11 u10 H locs hr11 hu10 hP hS => ?_)
            exact zt_iret C hr hlk hP hS (by subst hu3 hr5 hu4 hu6 hr11 hu10; exact (if_neg c1).trans ((if_neg c2).trans ((if_neg c7).trans ((if_neg c8).trans ((if_neg c9).trans (rfl)))))) dX1_ifs_122
          · refine lv_iconst (v := 1) hx hb dX1_ifs_110 (by decide) ?_
            refine lv_goto (tgt := 115) hx hb dX1_ifs_111 (by decide) ?_
            refine lv_bipush (v := 11) hx hb dX1_ifs_115 (by decide) ?_
            refine lv_bipush (v := 8) hx hb dX1_ifs_117 (by decide) ?_
            refine ztK_jump C hP hS hl.1 (by decide) (Nat.le_of_ble_eq_true rfl) dX1_ifs_119 (fun r13 u12 H locs hr13 hu12 hP hS => ?_)
            exact zt_iret C hr hlk hP hS (by subst hu3 hr5 hu4 hu6 hr13 hu12; exact (if_neg c1).trans ((if_neg c2).trans ((if_neg c7).trans ((if_neg c8).trans ((if_pos c9).trans (rfl)))))) dX1_ifs_122
        · refine lv_iload_n hx hb dX1_ifs_94 rfl (lv_at hl 1 rfl) ?_
          refine lv_if_ge (tgt := 102) hx hb dX1_ifs_95 (by decide) (fun c14 => ?_) (fun c14 => ?_)
          · refine lv_iconst (v := 0) hx hb dX1_ifs_102 (by decide) ?_
            refine lv_goto (tgt := 115) hx hb dX1_ifs_103 (by decide) ?_
            refine lv_bipush (v := 11) hx hb dX1_ifs_115 (by decide) ?_
            refine lv_bipush (v := 8) hx hb dX1_ifs_117 (by decide) ?_
            refine ztK_jump C hP hS hl.1 (by decide) (Nat.le_of_ble_eq_true rfl) dX1_ifs_119 (fun r16 u15 H locs hr16 hu15 hP hS => ?_)
            exact zt_iret C hr hlk hP hS (by subst hu3 hr5 hu4 hu6 hr16 hu15; exact (if_neg c1).trans ((if_neg c2).trans ((if_neg c7).trans ((if_pos c8).trans ((if_pos c14).trans (rfl)))))) dX1_ifs_122
          · refine lv_iconst (v := 1) hx hb dX1_ifs_98 (by decide) ?_
            refine lv_goto (tgt := 115) hx hb dX1_ifs_99 (by decide) ?_
            refine lv_bipush (v := 11) hx hb dX1_ifs_115 (by decide) ?_
            refine lv_bipush (v := 8) hx hb dX1_ifs_117 (by decide) ?_
            refine ztK_jump C hP hS hl.1 (by decide) (Nat.le_of_ble_eq_true rfl) dX1_ifs_119 (fun r18 u17 H locs hr18 hu17 hP hS => ?_)
            exact zt_iret C hr hlk hP hS (by subst hu3 hr5 hu4 hu6 hr18 hu17; exact (if_neg c1).trans ((if_neg c2).trans ((if_neg c7).trans ((if_pos c8).trans ((if_neg c14).trans (rfl)))))) dX1_ifs_122
      · refine lv_aload_n hx hb dX1_ifs_67 rfl (lv_at hl 2 rfl) ?_
        refine lv_iload_n hx hb dX1_ifs_68 rfl (lv_at hl 1 rfl) ?_
        refine lv_iload_n hx hb dX1_ifs_69 rfl (lv_at hl 0 rfl) ?_
        refine lv_icmp_ne (tgt := 77) hx hb dX1_ifs_70 (by decide) (fun c19 => ?_) (fun c19 => ?_)
        · refine lv_iconst (v := 0) hx hb dX1_ifs_77 (by decide) ?_
          refine lv_bipush (v := 13) hx hb dX1_ifs_78 (by decide) ?_
          refine lv_bipush (v := 10) hx hb dX1_ifs_80 (by decide) ?_
          refine ztK_jump C hP hS hl.1 (by decide) (Nat.le_of_ble_eq_true rfl) dX1_ifs_82 (fun r21 u20 H locs hr21 hu20 hP hS => ?_)
          exact zt_iret C hr hlk hP hS (by subst hu3 hr5 hu4 hu6 hr21 hu20; exact (if_neg c1).trans ((if_neg c2).trans ((if_pos c7).trans ((if_neg c19).trans (rfl))))) dX1_ifs_85
        · refine lv_iconst (v := 1) hx hb dX1_ifs_73 (by decide) ?_
          refine lv_goto (tgt := 78) hx hb dX1_ifs_74 (by decide) ?_
          refine lv_bipush (v := 13) hx hb dX1_ifs_78 (by decide) ?_
          refine lv_bipush (v := 10) hx hb dX1_ifs_80 (by decide) ?_
          refine ztK_jump C hP hS hl.1 (by decide) (Nat.le_of_ble_eq_true rfl) dX1_ifs_82 (fun r23 u22 H locs hr23 hu22 hP hS => ?_)
          exact zt_iret C hr hlk hP hS (by subst hu3 hr5 hu4 hu6 hr23 hu22; exact (if_neg c1).trans ((if_neg c2).trans ((if_pos c7).trans ((if_pos c19).trans (rfl))))) dX1_ifs_85
    · refine lv_iconst (v := 2) hx hb dX1_ifs_39 (by decide) ?_
      refine lv_goto (tgt := 44) hx hb dX1_ifs_40 (by decide) ?_
      refine lv_isub hx hb dX1_ifs_44 ?_
      refine ztP_sp C hP hS dX1_ifs_45 (fun u24 H locs hu24 hP hS => ?_)
      refine lv_aload_n hx hb dX1_ifs_48 rfl (lv_at hl 2 rfl) ?_
      refine lv_aload_n hx hb dX1_ifs_49 rfl (lv_at hl 2 rfl) ?_
      refine lv_aload_n hx hb dX1_ifs_50 rfl (lv_at hl 2 rfl) ?_
      refine ztG_sp C hP dX1_ifs_51 ?_
      refine ztK_read C hP hS hl.1 (by decide) (Nat.le_of_ble_eq_true rfl) dX1_ifs_54 (fun r26 u25 H locs hr26 hu25 hP hS => ?_)
      refine ztP_top C hP hS dX1_ifs_57 (fun u27 H locs hu27 hP hS => ?_)
      refine lv_iload_n hx hb dX1_ifs_60 rfl (lv_at hl 3 rfl) ?_
      refine lv_sipush (v := 159) hx hb dX1_ifs_61 (by decide) ?_
      refine lv_icmp_ne (tgt := 86) hx hb dX1_ifs_64 (by decide) (fun c28 => ?_) (fun c28 => ?_)
      · refine lv_aload_n hx hb dX1_ifs_86 rfl (lv_at hl 2 rfl) ?_
        refine lv_iload_n hx hb dX1_ifs_87 rfl (lv_at hl 3 rfl) ?_
        refine lv_sipush (v := 155) hx hb dX1_ifs_88 (by decide) ?_
        refine lv_icmp_ne (tgt := 106) hx hb dX1_ifs_91 (by decide) (fun c29 => ?_) (fun c29 => ?_)
        · refine lv_iload_n hx hb dX1_ifs_106 rfl (lv_at hl 1 rfl) ?_
          refine lv_if_ne (tgt := 114) hx hb dX1_ifs_107 (by decide) (fun c30 => ?_) (fun c30 => ?_)
          · refine lv_iconst (v := 0) hx hb dX1_ifs_114 (by decide) ?_
            refine lv_bipush (v := 11) hx hb dX1_ifs_115 (by decide) ?_
            refine lv_bipush (v := 8) hx hb dX1_ifs_117 (by decide) ?_
            refine ztK_jump C hP hS hl.1 (by decide) (Nat.le_of_ble_eq_true rfl) dX1_ifs_119 (fun r32 u31 H locs hr32 hu31 hP hS => ?_)
            exact zt_iret C hr hlk hP hS (by subst hu24 hr26 hu25 hu27 hr32 hu31; exact (if_neg c1).trans ((if_pos c2).trans ((if_neg c28).trans ((if_neg c29).trans ((if_neg c30).trans (rfl)))))) dX1_ifs_122
          · refine lv_iconst (v := 1) hx hb dX1_ifs_110 (by decide) ?_
            refine lv_goto (tgt := 115) hx hb dX1_ifs_111 (by decide) ?_
            refine lv_bipush (v := 11) hx hb dX1_ifs_115 (by decide) ?_
            refine lv_bipush (v := 8) hx hb dX1_ifs_117 (by decide) ?_
            refine ztK_jump C hP hS hl.1 (by decide) (Nat.le_of_ble_eq_true rfl) dX1_ifs_119 (fun r34 u33 H locs hr34 hu33 hP hS => ?_)
            exact zt_iret C hr hlk hP hS (by subst hu24 hr26 hu25 hu27 hr34 hu33; exact (if_neg c1).trans ((if_pos c2).trans ((if_neg c28).trans ((if_neg c29).trans ((if_pos c30).trans (rfl)))))) dX1_ifs_122
        · refine lv_iload_n hx hb dX1_ifs_94 rfl (lv_at hl 1 rfl) ?_
          refine lv_if_ge (tgt := 102) hx hb dX1_ifs_95 (by decide) (fun c35 => ?_) (fun c35 => ?_)
          · refine lv_iconst (v := 0) hx hb dX1_ifs_102 (by decide) ?_
            refine lv_goto (tgt := 115) hx hb dX1_ifs_103 (by decide) ?_
            refine lv_bipush (v := 11) hx hb dX1_ifs_115 (by decide) ?_
            refine lv_bipush (v := 8) hx hb dX1_ifs_117 (by decide) ?_
            refine ztK_jump C hP hS hl.1 (by decide) (Nat.le_of_ble_eq_true rfl) dX1_ifs_119 (fun r37 u36 H locs hr37 hu36 hP hS => ?_)
            exact zt_iret C hr hlk hP hS (by subst hu24 hr26 hu25 hu27 hr37 hu36; exact (if_neg c1).trans ((if_pos c2).trans ((if_neg c28).trans ((if_pos c29).trans ((if_pos c35).trans (rfl)))))) dX1_ifs_122
          · refine lv_iconst (v := 1) hx hb dX1_ifs_98 (by decide) ?_
            refine lv_goto (tgt := 115) hx hb dX1_ifs_99 (by decide) ?_
            refine lv_bipush (v := 11) hx hb dX1_ifs_115 (by decide) ?_
            refine lv_bipush (v := 8) hx hb dX1_ifs_117 (by decide) ?_
            refine ztK_jump C hP hS hl.1 (by decide) (Nat.le_of_ble_eq_true rfl) dX1_ifs_119 (fun r39 u38 H locs hr39 hu38 hP hS => ?_)
            exact zt_iret C hr hlk hP hS (by subst hu24 hr26 hu25 hu27 hr39 hu38; exact (if_neg c1).trans ((if_pos c2).trans ((if_neg c28).trans ((if_pos c29).trans ((if_neg c35).trans (rfl)))))) dX1_ifs_122
      · refine lv_aload_n hx hb dX1_ifs_67 rfl (lv_at hl 2 rfl) ?_
        refine lv_iload_n hx hb dX1_ifs_68 rfl (lv_at hl 1 rfl) ?_
        refine lv_iload_n hx hb dX1_ifs_69 rfl (lv_at hl 0 rfl) ?_
        refine lv_icmp_ne (tgt := 77) hx hb dX1_ifs_70 (by decide) (fun c40 => ?_) (fun c40 => ?_)
        · refine lv_iconst (v := 0) hx hb dX1_ifs_77 (by decide) ?_
          refine lv_bipush (v := 13) hx hb dX1_ifs_78 (by decide) ?_
          refine lv_bipush (v := 10) hx hb dX1_ifs_80 (by decide) ?_
          refine ztK_jump C hP hS hl.1 (by decide) (Nat.le_of_ble_eq_true rfl) dX1_ifs_82 (fun r42 u41 H locs hr42 hu41 hP hS => ?_)
          exact zt_iret C hr hlk hP hS (by subst hu24 hr26 hu25 hu27 hr42 hu41; exact (if_neg c1).trans ((if_pos c2).trans ((if_pos c28).trans ((if_neg c40).trans (rfl))))) dX1_ifs_85
        · refine lv_iconst (v := 1) hx hb dX1_ifs_73 (by decide) ?_
          refine lv_goto (tgt := 78) hx hb dX1_ifs_74 (by decide) ?_
          refine lv_bipush (v := 13) hx hb dX1_ifs_78 (by decide) ?_
          refine lv_bipush (v := 10) hx hb dX1_ifs_80 (by decide) ?_
          refine ztK_jump C hP hS hl.1 (by decide) (Nat.le_of_ble_eq_true rfl) dX1_ifs_82 (fun r44 u43 H locs hr44 hu43 hP hS => ?_)
          exact zt_iret C hr hlk hP hS (by subst hu24 hr26 hu25 hu27 hr44 hu43; exact (if_neg c1).trans ((if_pos c2).trans ((if_pos c28).trans ((if_pos c40).trans (rfl))))) dX1_ifs_85
  · refine lv_aload_n hx hb dX1_ifs_12 rfl (lv_at hl 1 rfl) ?_
    refine lv_aload_n hx hb dX1_ifs_13 rfl (lv_at hl 1 rfl) ?_
    refine ztG_sp C hP dX1_ifs_14 ?_
    refine lv_iconst (v := 1) hx hb dX1_ifs_17 (by decide) ?_
    refine lv_isub hx hb dX1_ifs_18 ?_
    refine ztK_read C hP hS hl.1 (by decide) (Nat.le_of_ble_eq_true rfl) dX1_ifs_19 (fun r46 u45 H locs hr46 hu45 hP hS => ?_)
    refine lv_goto (tgt := 26) hx hb dX1_ifs_22 (by decide) ?_
    refine lv_istore_n (lv' := [(3, .int r46), (2, .int (ztg_top u)), (0, .ref (zta_this k)), (1, .int a1)]) hx hb dX1_ifs_26 rfl hl (by decide) rfl (fun ls hl => ?_)
    refine lv_aload_n hx hb dX1_ifs_27 rfl (lv_at hl 2 rfl) ?_
    refine lv_dup hx hb dX1_ifs_28 rfl ?_
    refine ztG_sp C hP dX1_ifs_29 ?_
    refine lv_iload_n hx hb dX1_ifs_32 rfl (lv_at hl 3 rfl) ?_
    refine lv_sipush (v := 159) hx hb dX1_ifs_33 (by decide) ?_
    refine lv_icmp_ne (tgt := 43) hx hb dX1_ifs_36 (by decide) (fun c47 => ?_) (fun c47 => ?_)
    · refine lv_iconst (v := 1) hx hb dX1_ifs_43 (by decide) ?_
      refine lv_isub hx hb dX1_ifs_44 ?_
      refine ztP_sp C hP hS dX1_ifs_45 (fun u48 H locs hu48 hP hS => ?_)
      refine lv_aload_n hx hb dX1_ifs_48 rfl (lv_at hl 2 rfl) ?_
      refine lv_aload_n hx hb dX1_ifs_49 rfl (lv_at hl 2 rfl) ?_
      refine lv_aload_n hx hb dX1_ifs_50 rfl (lv_at hl 2 rfl) ?_
      refine ztG_sp C hP dX1_ifs_51 ?_
      refine ztK_read C hP hS hl.1 (by decide) (Nat.le_of_ble_eq_true rfl) dX1_ifs_54 (fun r50 u49 H locs hr50 hu49 hP hS => ?_)
      refine ztP_top C hP hS dX1_ifs_57 (fun u51 H locs hu51 hP hS => ?_)
      refine lv_iload_n hx hb dX1_ifs_60 rfl (lv_at hl 3 rfl) ?_
      refine lv_sipush (v := 159) hx hb dX1_ifs_61 (by decide) ?_
      refine lv_icmp_ne (tgt := 86) hx hb dX1_ifs_64 (by decide) (fun c52 => ?_) (fun c52 => ?_)
      · refine lv_aload_n hx hb dX1_ifs_86 rfl (lv_at hl 2 rfl) ?_
        refine lv_iload_n hx hb dX1_ifs_87 rfl (lv_at hl 3 rfl) ?_
        refine lv_sipush (v := 155) hx hb dX1_ifs_88 (by decide) ?_
        refine lv_icmp_ne (tgt := 106) hx hb dX1_ifs_91 (by decide) (fun c53 => ?_) (fun c53 => ?_)
        · refine lv_iload_n hx hb dX1_ifs_106 rfl (lv_at hl 1 rfl) ?_
          refine lv_if_ne (tgt := 114) hx hb dX1_ifs_107 (by decide) (fun c54 => ?_) (fun c54 => ?_)
          · refine lv_iconst (v := 0) hx hb dX1_ifs_114 (by decide) ?_
            refine lv_bipush (v := 11) hx hb dX1_ifs_115 (by decide) ?_
            refine lv_bipush (v := 8) hx hb dX1_ifs_117 (by decide) ?_
            refine ztK_jump C hP hS hl.1 (by decide) (Nat.le_of_ble_eq_true rfl) dX1_ifs_119 (fun r56 u55 H locs hr56 hu55 hP hS => ?_)
            exact zt_iret C hr hlk hP hS (by subst hr46 hu45 hu48 hr50 hu49 hu51 hr56 hu55; exact (if_pos c1).trans ((if_neg c47).trans ((if_neg c52).trans ((if_neg c53).trans ((if_neg c54).trans (rfl)))))) dX1_ifs_122
          · refine lv_iconst (v := 1) hx hb dX1_ifs_110 (by decide) ?_
            refine lv_goto (tgt := 115) hx hb dX1_ifs_111 (by decide) ?_
            refine lv_bipush (v := 11) hx hb dX1_ifs_115 (by decide) ?_
            refine lv_bipush (v := 8) hx hb dX1_ifs_117 (by decide) ?_
            refine ztK_jump C hP hS hl.1 (by decide) (Nat.le_of_ble_eq_true rfl) dX1_ifs_119 (fun r58 u57 H locs hr58 hu57 hP hS => ?_)
            exact zt_iret C hr hlk hP hS (by subst hr46 hu45 hu48 hr50 hu49 hu51 hr58 hu57; exact (if_pos c1).trans ((if_neg c47).trans ((if_neg c52).trans ((if_neg c53).trans ((if_pos c54).trans (rfl)))))) dX1_ifs_122
        · refine lv_iload_n hx hb dX1_ifs_94 rfl (lv_at hl 1 rfl) ?_
          refine lv_if_ge (tgt := 102) hx hb dX1_ifs_95 (by decide) (fun c59 => ?_) (fun c59 => ?_)
          · refine lv_iconst (v := 0) hx hb dX1_ifs_102 (by decide) ?_
            refine lv_goto (tgt := 115) hx hb dX1_ifs_103 (by decide) ?_
            refine lv_bipush (v := 11) hx hb dX1_ifs_115 (by decide) ?_
            refine lv_bipush (v := 8) hx hb dX1_ifs_117 (by decide) ?_
            refine ztK_jump C hP hS hl.1 (by decide) (Nat.le_of_ble_eq_true rfl) dX1_ifs_119 (fun r61 u60 H locs hr61 hu60 hP hS => ?_)
            exact zt_iret C hr hlk hP hS (by subst hr46 hu45 hu48 hr50 hu49 hu51 hr61 hu60; exact (if_pos c1).trans ((if_neg c47).trans ((if_neg c52).trans ((if_pos c53).trans ((if_pos c59).trans (rfl)))))) dX1_ifs_122
          · refine lv_iconst (v := 1) hx hb dX1_ifs_98 (by decide) ?_
            refine lv_goto (tgt := 115) hx hb dX1_ifs_99 (by decide) ?_
            refine lv_bipush (v := 11) hx hb dX1_ifs_115 (by decide) ?_
            refine lv_bipush (v := 8) hx hb dX1_ifs_117 (by decide) ?_
            refine ztK_jump C hP hS hl.1 (by decide) (Nat.le_of_ble_eq_true rfl) dX1_ifs_119 (fun r63 u62 H locs hr63 hu62 hP hS => ?_)
            exact zt_iret C hr hlk hP hS (by subst hr46 hu45 hu48 hr50 hu49 hu51 hr63 hu62; exact (if_pos c1).trans ((if_neg c47).trans ((if_neg c52).trans ((if_pos c53).trans ((if_neg c59).trans (rfl)))))) dX1_ifs_122
      · refine lv_aload_n hx hb dX1_ifs_67 rfl (lv_at hl 2 rfl) ?_
        refine lv_iload_n hx hb dX1_ifs_68 rfl (lv_at hl 1 rfl) ?_
        refine lv_iload_n hx hb dX1_ifs_69 rfl (lv_at hl 0 rfl) ?_
        refine lv_icmp_ne (tgt := 77) hx hb dX1_ifs_70 (by decide) (fun c64 => ?_) (fun c64 => ?_)
        · refine lv_iconst (v := 0) hx hb dX1_ifs_77 (by decide) ?_
          refine lv_bipush (v := 13) hx hb dX1_ifs_78 (by decide) ?_
          refine lv_bipush (v := 10) hx hb dX1_ifs_80 (by decide) ?_
          refine ztK_jump C hP hS hl.1 (by decide) (Nat.le_of_ble_eq_true rfl) dX1_ifs_82 (fun r66 u65 H locs hr66 hu65 hP hS => ?_)
          exact zt_iret C hr hlk hP hS (by subst hr46 hu45 hu48 hr50 hu49 hu51 hr66 hu65; exact (if_pos c1).trans ((if_neg c47).trans ((if_pos c52).trans ((if_neg c64).trans (rfl))))) dX1_ifs_85
        · refine lv_iconst (v := 1) hx hb dX1_ifs_73 (by decide) ?_
          refine lv_goto (tgt := 78) hx hb dX1_ifs_74 (by decide) ?_
          refine lv_bipush (v := 13) hx hb dX1_ifs_78 (by decide) ?_
          refine lv_bipush (v := 10) hx hb dX1_ifs_80 (by decide) ?_
          refine ztK_jump C hP hS hl.1 (by decide) (Nat.le_of_ble_eq_true rfl) dX1_ifs_82 (fun r68 u67 H locs hr68 hu67 hP hS => ?_)
          exact zt_iret C hr hlk hP hS (by subst hr46 hu45 hu48 hr50 hu49 hu51 hr68 hu67; exact (if_pos c1).trans ((if_neg c47).trans ((if_pos c52).trans ((if_pos c64).trans (rfl))))) dX1_ifs_85
    · refine lv_iconst (v := 2) hx hb dX1_ifs_39 (by decide) ?_
      refine lv_goto (tgt := 44) hx hb dX1_ifs_40 (by decide) ?_
      refine lv_isub hx hb dX1_ifs_44 ?_
      refine ztP_sp C hP hS dX1_ifs_45 (fun u69 H locs hu69 hP hS => ?_)
      refine lv_aload_n hx hb dX1_ifs_48 rfl (lv_at hl 2 rfl) ?_
      refine lv_aload_n hx hb dX1_ifs_49 rfl (lv_at hl 2 rfl) ?_
      refine lv_aload_n hx hb dX1_ifs_50 rfl (lv_at hl 2 rfl) ?_
      refine ztG_sp C hP dX1_ifs_51 ?_
      refine ztK_read C hP hS hl.1 (by decide) (Nat.le_of_ble_eq_true rfl) dX1_ifs_54 (fun r71 u70 H locs hr71 hu70 hP hS => ?_)
      refine ztP_top C hP hS dX1_ifs_57 (fun u72 H locs hu72 hP hS => ?_)
      refine lv_iload_n hx hb dX1_ifs_60 rfl (lv_at hl 3 rfl) ?_
      refine lv_sipush (v := 159) hx hb dX1_ifs_61 (by decide) ?_
      refine lv_icmp_ne (tgt := 86) hx hb dX1_ifs_64 (by decide) (fun c73 => ?_) (fun c73 => ?_)
      · refine lv_aload_n hx hb dX1_ifs_86 rfl (lv_at hl 2 rfl) ?_
        refine lv_iload_n hx hb dX1_ifs_87 rfl (lv_at hl 3 rfl) ?_
        refine lv_sipush (v := 155) hx hb dX1_ifs_88 (by decide) ?_
        refine lv_icmp_ne (tgt := 106) hx hb dX1_ifs_91 (by decide) (fun c74 => ?_) (fun c74 => ?_)
        · refine lv_iload_n hx hb dX1_ifs_106 rfl (lv_at hl 1 rfl) ?_
          refine lv_if_ne (tgt := 114) hx hb dX1_ifs_107 (by decide) (fun c75 => ?_) (fun c75 => ?_)
          · refine lv_iconst (v := 0) hx hb dX1_ifs_114 (by decide) ?_
            refine lv_bipush (v := 11) hx hb dX1_ifs_115 (by decide) ?_
            refine lv_bipush (v := 8) hx hb dX1_ifs_117 (by decide) ?_
            refine ztK_jump C hP hS hl.1 (by decide) (Nat.le_of_ble_eq_true rfl) dX1_ifs_119 (fun r77 u76 H locs hr77 hu76 hP hS => ?_)
            exact zt_iret C hr hlk hP hS (by subst hr46 hu45 hu69 hr71 hu70 hu72 hr77 hu76; exact (if_pos c1).trans ((if_pos c47).trans ((if_neg c73).trans ((if_neg c74).trans ((if_neg c75).trans (rfl)))))) dX1_ifs_122
          · refine lv_iconst (v := 1) hx hb dX1_ifs_110 (by decide) ?_
            refine lv_goto (tgt := 115) hx hb dX1_ifs_111 (by decide) ?_
            refine lv_bipush (v := 11) hx hb dX1_ifs_115 (by decide) ?_
            refine lv_bipush (v := 8) hx hb dX1_ifs_117 (by decide) ?_
            refine ztK_jump C hP hS hl.1 (by decide) (Nat.le_of_ble_eq_true rfl) dX1_ifs_119 (fun r79 u78 H locs hr79 hu78 hP hS => ?_)
            exact zt_iret C hr hlk hP hS (by subst hr46 hu45 hu69 hr71 hu70 hu72 hr79 hu78; exact (if_pos c1).trans ((if_pos c47).trans ((if_neg c73).trans ((if_neg c74).trans ((if_pos c75).trans (rfl)))))) dX1_ifs_122
        · refine lv_iload_n hx hb dX1_ifs_94 rfl (lv_at hl 1 rfl) ?_
          refine lv_if_ge (tgt := 102) hx hb dX1_ifs_95 (by decide) (fun c80 => ?_) (fun c80 => ?_)
          · refine lv_iconst (v := 0) hx hb dX1_ifs_102 (by decide) ?_
            refine lv_goto (tgt := 115) hx hb dX1_ifs_103 (by decide) ?_
            refine lv_bipush (v := 11) hx hb dX1_ifs_115 (by decide) ?_
            refine lv_bipush (v := 8) hx hb dX1_ifs_117 (by decide) ?_
            refine ztK_jump C hP hS hl.1 (by decide) (Nat.le_of_ble_eq_true rfl) dX1_ifs_119 (fun r82 u81 H locs hr82 hu81 hP hS => ?_)
            exact zt_iret C hr hlk hP hS (by subst hr46 hu45 hu69 hr71 hu70 hu72 hr82 hu81; exact (if_pos c1).trans ((if_pos c47).trans ((if_neg c73).trans ((if_pos c74).trans ((if_pos c80).trans (rfl)))))) dX1_ifs_122
          · refine lv_iconst (v := 1) hx hb dX1_ifs_98 (by decide) ?_
            refine lv_goto (tgt := 115) hx hb dX1_ifs_99 (by decide) ?_
            refine lv_bipush (v := 11) hx hb dX1_ifs_115 (by decide) ?_
            refine lv_bipush (v := 8) hx hb dX1_ifs_117 (by decide) ?_
            refine ztK_jump C hP hS hl.1 (by decide) (Nat.le_of_ble_eq_true rfl) dX1_ifs_119 (fun r84 u83 H locs hr84 hu83 hP hS => ?_)
            exact zt_iret C hr hlk hP hS (by subst hr46 hu45 hu69 hr71 hu70 hu72 hr84 hu83; exact (if_pos c1).trans ((if_pos c47).trans ((if_neg c73).trans ((if_pos c74).trans ((if_neg c80).trans (rfl)))))) dX1_ifs_122
      · refine lv_aload_n hx hb dX1_ifs_67 rfl (lv_at hl 2 rfl) ?_
        refine lv_iload_n hx hb dX1_ifs_68 rfl (lv_at hl 1 rfl) ?_
        refine lv_iload_n hx hb dX1_ifs_69 rfl (lv_at hl 0 rfl) ?_
        refine lv_icmp_ne (tgt := 77) hx hb dX1_ifs_70 (by decide) (fun c85 => ?_) (fun c85 => ?_)
        · refine lv_iconst (v := 0) hx hb dX1_ifs_77 (by decide) ?_
          refine lv_bipush (v := 13) hx hb dX1_ifs_78 (by decide) ?_
          refine lv_bipush (v := 10) hx hb dX1_ifs_80 (by decide) ?_
          refine ztK_jump C hP hS hl.1 (by decide) (Nat.le_of_ble_eq_true rfl) dX1_ifs_82 (fun r87 u86 H locs hr87 hu86 hP hS => ?_)
          exact zt_iret C hr hlk hP hS (by subst hr46 hu45 hu69 hr71 hu70 hu72 hr87 hu86; exact (if_pos c1).trans ((if_pos c47).trans ((if_pos c73).trans ((if_neg c85).trans (rfl))))) dX1_ifs_85
        · refine lv_iconst (v := 1) hx hb dX1_ifs_73 (by decide) ?_
          refine lv_goto (tgt := 78) hx hb dX1_ifs_74 (by decide) ?_
          refine lv_bipush (v := 13) hx hb dX1_ifs_78 (by decide) ?_
          refine lv_bipush (v := 10) hx hb dX1_ifs_80 (by decide) ?_
          refine ztK_jump C hP hS hl.1 (by decide) (Nat.le_of_ble_eq_true rfl) dX1_ifs_82 (fun r89 u88 H locs hr89 hu88 hP hS => ?_)
          exact zt_iret C hr hlk hP hS (by subst hr46 hu45 hu69 hr71 hu70 hu72 hr89 hu88; exact (if_pos c1).trans ((if_pos c47).trans ((if_pos c73).trans ((if_pos c85).trans (rfl))))) dX1_ifs_85
section
variable {p : Program} {l : Launch} {e : Env} {R : Room} {s : State} {m : MethodId} {args : Array Value} {below : List Frame} {meth : Method} {c : Code} {H : Heap} {locs : List Loc} {Q : State → Prop} {cc : ByteArray} {pc nL : Nat} {ls : Array Slot} {rest : List Value} {k : Ztk} {u : Zts} {H0 : Heap}
set_option maxHeartbeats 4000000 in
set_option maxRecDepth 100000 in
theorem ztK_ifs {a1 : Int32} (C : ZtC p s m args c cc nL k) (hP : ZtP k u H) (hS : va_S (ZtA k) H0 H locs) (hsz : ls.size = nL) (hR : 3 + 1 ≤ R.frames ∧ 8 + (4 + 11) + 40 * 3 ≤ R.locals) (hw : (rest.map fun v => v.category).sum ≤ 8) (hdg : decode cc pc = .ok (.invokevirtual 109, 3)) (kk : ∀ (r1 : Int32) (u1 : Zts) (H1 : Heap) (locs1 : List Loc), r1 = (zt_ifs u a1).1 → u1 = (zt_ifs u a1).2 → ZtP k u1 H1 → va_S (ZtA k) H0 H1 locs1 → W p l e R s m args below meth c H1 locs1 0 0 Q (F0 m (pc + 3) ls (.int r1 :: rest))) : W p l e R s m args below meth c H locs 0 0 Q (F0 m pc ls (.int a1 :: .ref (zta_this k) :: rest)) :=
  zt_callV (y := yX1_ifs) (n := 1) (As := [.int a1]) C (ztM_ifs l k C.2.2 u a1 ) zwT_c_ifs zwT_l_ifs zwT_i_ifs zwT_v_ifs rfl (by decide +kernel) hP hS hsz hR hw rfl hdg (fun H1 locs1 hP1 hS1 => kk _ _ H1 locs1 rfl rfl hP1 hS1)
end
theorem zt_G_ifs {w0 : Nat → Int32} {n : Nat} {u : Zts} (a1 : Int32) (h : ZtG w0 n u) : ZtG w0 (n + 0) (zt_ifs u a1).2 := by
  unfold zt_ifs
  dsimp only
  repeat' split
  all_goals first | exact zt_Gle (by omega) (zt_G_jump _ _ _ (zt_Gs_top _ (zt_G_read _ (zt_Gs_sp _ (h))))) | exact zt_Gle (by omega) (zt_G_jump _ _ _ (zt_Gs_top _ (zt_G_read _ (zt_Gs_sp _ (zt_G_read _ (h))))))
def zt_call (u : Zts) : Int32 × Zts :=
  let r2 := (zt_pair u ((ztg_pc u) + 1)).1
  let u1 := (zt_pair u ((ztg_pc u) + 1)).2
  let r4 := (zt_read u1 ((ztg_cpp u) + r2)).1
  let u3 := (zt_read u1 ((ztg_cpp u) + r2)).2
  let r6 := (zt_pair u3 r4).1
  let u5 := (zt_pair u3 r4).2
  let r8 := (zt_pair u5 (r4 + 2)).1
  let u7 := (zt_pair u5 (r4 + 2)).2
  let u9 := zt_write u7 (((ztg_sp u7) - r6) + 1) (((ztg_sp u7) + r8) + 1)
  let u10 := zt_write u9 (((ztg_sp u7) + r8) + 1) ((ztg_pc u9) + 3)
  let u11 := zts_sp u10 ((((ztg_sp u7) + r8) + 1) + 1)
  let u12 := zt_write u11 (ztg_sp u11) (ztg_lv u11)
  let u13 := zts_lv u12 (((ztg_sp u7) - r6) + 1)
  let u14 := zts_top u13 (((ztg_sp u7) - r6) + 1)
  let u15 := zts_next u14 (r4 + 4)
  (23, u15)
set_option maxHeartbeats 4000000 in
set_option maxRecDepth 100000 in
theorem ztM_call (l : Launch) (k : Ztk) (Dk : ZtD k) (u : Zts) {w0 : Nat → Int32} (hN : ZtG w0 4 u) : Met l yX1_call (.code yX1_call cX1_call 6 (some .int) :: zwT) (zrm 2) (ZtB k [.ref (zta_this k)] u) (ZtQ k (some (.int (zt_call u ).1)) (zt_call u ).2) 0 0 (ZtA k) := by
  refine ztE_in (by decide) rfl (Nat.le_of_ble_eq_true rfl) Dk ?_
  intro p e s m below meth c ls C hr hlk hP hl
  have hx := C.1.1
  have hb := C.1.2.1
  have hl : lv_has ls 6 [(0, .ref (zta_this k))] := hl
  have hS : va_S (ZtA k) s.heap s.heap [] := va_S.rf
  refine lv_aload_n hx hb dX1_call_0 rfl (lv_at hl 0 rfl) ?_
  refine lv_aload_n hx hb dX1_call_1 rfl (lv_at hl 0 rfl) ?_
  refine ztG_cpp C hP dX1_call_2 ?_
  refine lv_aload_n hx hb dX1_call_5 rfl (lv_at hl 0 rfl) ?_
  refine lv_aload_n hx hb dX1_call_6 rfl (lv_at hl 0 rfl) ?_
  refine ztG_pc C hP dX1_call_7 ?_
  refine lv_iconst (v := 1) hx hb dX1_call_10 (by decide) ?_
  refine lv_iadd hx hb dX1_call_11 ?_
  refine ztK_pair C hP hS hl.1 (by decide) (Nat.le_of_ble_eq_true rfl) dX1_call_12 (fun r2 u1 H locs hr2 hu1 hP hS => ?_)
  refine lv_iadd hx hb dX1_call_15 ?_
  refine ztK_read C hP hS hl.1 (by decide) (Nat.le_of_ble_eq_true rfl) dX1_call_16 (fun r4 u3 H locs hr4 hu3 hP hS => ?_)
  refine lv_istore_n (lv' := [(1, .int r4), (0, .ref (zta_this k))]) hx hb dX1_call_19 rfl hl (by decide) rfl (fun ls hl => ?_)
  refine lv_aload_n hx hb dX1_call_20 rfl (lv_at hl 1 rfl) ?_
  refine lv_iload_n hx hb dX1_call_21 rfl (lv_at hl 0 rfl) ?_
  refine ztK_pair C hP hS hl.1 (by decide) (Nat.le_of_ble_eq_true rfl) dX1_call_22 (fun r6 u5 H locs hr6 hu5 hP hS => ?_)
  refine lv_istore_n (lv' := [(2, .int r6), (1, .int r4), (0, .ref (zta_this k))]) hx hb dX1_call_25 rfl hl (by decide) rfl (fun ls hl => ?_)
  refine lv_aload_n hx hb dX1_call_26 rfl (lv_at hl 2 rfl) ?_
  refine lv_iload_n hx hb dX1_call_27 rfl (lv_at hl 1 rfl) ?_
  refine lv_iconst (v := 2) hx hb dX1_call_28 (by decide) ?_
  refine lv_iadd hx hb dX1_call_29 ?_
  refine ztK_pair C hP hS hl.1 (by decide) (Nat.le_of_ble_eq_true rfl) dX1_call_30 (fun r8 u7 H locs hr8 hu7 hP hS => ?_)
  refine lv_istore_n (lv' := [(3, .int r8), (2, .int r6), (1, .int r4), (0, .ref (zta_this k))]) hx hb dX1_call_33 rfl hl (by decide) rfl (fun ls hl => ?_)
  refine lv_aload_n hx hb dX1_call_34 rfl (lv_at hl 3 rfl) ?_
  refine ztG_sp C hP dX1_call_35 ?_
  refine lv_iload_n hx hb dX1_call_38 rfl (lv_at hl 1 rfl) ?_
  refine lv_isub hx hb dX1_call_39 ?_
  refine lv_iconst (v := 1) hx hb dX1_call_40 (by decide) ?_
  refine lv_iadd hx hb dX1_call_41 ?_
  refine lv_istore (lv' := [(4, .int (((ztg_sp u7) - r6) + 1)), (3, .int r8), (2, .int r6), (1, .int r4), (0, .ref (zta_this k))]) hx hb dX1_call_42 hl (by decide) rfl (fun ls hl => ?_)
  refine lv_aload_n hx hb dX1_call_44 rfl (lv_at hl 4 rfl) ?_
  refine ztG_sp C hP dX1_call_45 ?_
  refine lv_iload_n hx hb dX1_call_48 rfl (lv_at hl 1 rfl) ?_
  refine lv_iadd hx hb dX1_call_49 ?_
  refine lv_iconst (v := 1) hx hb dX1_call_50 (by decide) ?_
  refine lv_iadd hx hb dX1_call_51 ?_
  refine lv_istore (lv' := [(5, .int (((ztg_sp u7) + r8) + 1)), (4, .int (((ztg_sp u7) - r6) + 1)), (3, .int r8), (2, .int r6), (1, .int r4), (0, .ref (zta_this k))]) hx hb dX1_call_52 hl (by decide) rfl (fun ls hl => ?_)
  refine lv_aload_n hx hb dX1_call_54 rfl (lv_at hl 5 rfl) ?_
  refine lv_iload hx hb dX1_call_55 (lv_at hl 1 rfl) ?_
  refine lv_iload hx hb dX1_call_57 (lv_at hl 0 rfl) ?_
  refine ztK_write C hP hS hl.1 (by decide) (Nat.le_of_ble_eq_true rfl) (by subst hr2 hu1 hr4 hu3 hr6 hu5 hr8 hu7; exact zt_Gle (by decide) (zt_G_pair _ (zt_G_pair _ (zt_G_read _ (zt_G_pair _ (hN)))))) dX1_call_59 (fun u9 H locs hu9 hP hS => ?_)
  refine lv_aload_n hx hb dX1_call_62 rfl (lv_at hl 5 rfl) ?_
  refine lv_iload hx hb dX1_call_63 (lv_at hl 0 rfl) ?_
  refine lv_aload_n hx hb dX1_call_65 rfl (lv_at hl 5 rfl) ?_
  refine ztG_pc C hP dX1_call_66 ?_
  refine lv_iconst (v := 3) hx hb dX1_call_69 (by decide) ?_
  refine lv_iadd hx hb dX1_call_70 ?_
  refine ztK_write C hP hS hl.1 (by decide) (Nat.le_of_ble_eq_true rfl) (by subst hr2 hu1 hr4 hu3 hr6 hu5 hr8 hu7 hu9; exact zt_Gle (by decide) (zt_G_write _ _ (by omega) (zt_G_pair _ (zt_G_pair _ (zt_G_read _ (zt_G_pair _ (hN))))))) dX1_call_71 (fun u10 H locs hu10 hP hS => ?_)
  refine lv_aload_n hx hb dX1_call_74 rfl (lv_at hl 5 rfl) ?_
  refine lv_iload hx hb dX1_call_75 (lv_at hl 0 rfl) ?_
  refine lv_iconst (v := 1) hx hb dX1_call_77 (by decide) ?_
  refine lv_iadd hx hb dX1_call_78 ?_
  refine ztP_sp C hP hS dX1_call_79 (fun u11 H locs hu11 hP hS => ?_)
  refine lv_aload_n hx hb dX1_call_82 rfl (lv_at hl 5 rfl) ?_
  refine lv_aload_n hx hb dX1_call_83 rfl (lv_at hl 5 rfl) ?_
  refine ztG_sp C hP dX1_call_84 ?_
  refine lv_aload_n hx hb dX1_call_87 rfl (lv_at hl 5 rfl) ?_
  refine ztG_lv C hP dX1_call_88 ?_
  refine ztK_write C hP hS hl.1 (by decide) (Nat.le_of_ble_eq_true rfl) (by subst hr2 hu1 hr4 hu3 hr6 hu5 hr8 hu7 hu9 hu10 hu11; exact zt_Gle (by decide) (zt_Gs_sp _ (zt_G_write _ _ (by omega) (zt_G_write _ _ (by omega) (zt_G_pair _ (zt_G_pair _ (zt_G_read _ (zt_G_pair _ (hN))))))))) dX1_call_91 (fun u12 H locs hu12 hP hS => ?_)
  refine lv_aload_n hx hb dX1_call_94 rfl (lv_at hl 5 rfl) ?_
  refine lv_iload hx hb dX1_call_95 (lv_at hl 1 rfl) ?_
  refine ztP_lv C hP hS dX1_call_97 (fun u13 H locs hu13 hP hS => ?_)
  refine lv_aload_n hx hb dX1_call_100 rfl (lv_at hl 5 rfl) ?_
  refine lv_iload hx hb dX1_call_101 (lv_at hl 1 rfl) ?_
  refine ztP_top C hP hS dX1_call_103 (fun u14 H locs hu14 hP hS => ?_)
  refine lv_aload_n hx hb dX1_call_106 rfl (lv_at hl 5 rfl) ?_
  refine lv_iload_n hx hb dX1_call_107 rfl (lv_at hl 4 rfl) ?_
  refine lv_iconst (v := 4) hx hb dX1_call_108 (by decide) ?_
  refine lv_iadd hx hb dX1_call_109 ?_
  refine ztP_next C hP hS dX1_call_110 (fun u15 H locs hu15 hP hS => ?_)
  refine lv_bipush (v := 23) hx hb dX1_call_113 (by decide) ?_
  exact zt_iret C hr hlk hP hS (by subst hr2 hu1 hr4 hu3 hr6 hu5 hr8 hu7 hu9 hu10 hu11 hu12 hu13 hu14 hu15; exact rfl) dX1_call_115
section
variable {p : Program} {l : Launch} {e : Env} {R : Room} {s : State} {m : MethodId} {args : Array Value} {below : List Frame} {meth : Method} {c : Code} {H : Heap} {locs : List Loc} {Q : State → Prop} {cc : ByteArray} {pc nL : Nat} {ls : Array Slot} {rest : List Value} {k : Ztk} {u : Zts} {H0 : Heap}
set_option maxHeartbeats 4000000 in
set_option maxRecDepth 100000 in
theorem ztK_call (C : ZtC p s m args c cc nL k) (hP : ZtP k u H) (hS : va_S (ZtA k) H0 H locs) (hsz : ls.size = nL) (hR : 2 + 1 ≤ R.frames ∧ 8 + (6 + 11) + 40 * 2 ≤ R.locals) (hw : (rest.map fun v => v.category).sum ≤ 8) {w0 : Nat → Int32} (hN : ZtG w0 4 u) (hdg : decode cc pc = .ok (.invokevirtual 112, 3)) (kk : ∀ (r1 : Int32) (u1 : Zts) (H1 : Heap) (locs1 : List Loc), r1 = (zt_call u ).1 → u1 = (zt_call u ).2 → ZtP k u1 H1 → va_S (ZtA k) H0 H1 locs1 → W p l e R s m args below meth c H1 locs1 0 0 Q (F0 m (pc + 3) ls (.int r1 :: rest))) : W p l e R s m args below meth c H locs 0 0 Q (F0 m pc ls (.ref (zta_this k) :: rest)) :=
  zt_callV (y := yX1_call) (n := 0) (As := []) C (ztM_call l k C.2.2 u  hN) zwT_c_call zwT_l_call zwT_i_call zwT_v_call rfl (by decide +kernel) hP hS hsz hR hw rfl hdg (fun H1 locs1 hP1 hS1 => kk _ _ H1 locs1 rfl rfl hP1 hS1)
end
theorem zt_G_call {w0 : Nat → Int32} {n : Nat} {u : Zts} (hn : n ≤ 4) (h : ZtG w0 n u) : ZtG w0 (n + 3) (zt_call u ).2 := by
  unfold zt_call
  dsimp only
  repeat' split
  all_goals first | exact zt_Gle (by omega) (zt_Gs_next _ (zt_Gs_top _ (zt_Gs_lv _ (zt_G_write _ _ (by omega) (zt_Gs_sp _ (zt_G_write _ _ (by omega) (zt_G_write _ _ (by omega) (zt_G_pair _ (zt_G_pair _ (zt_G_read _ (zt_G_pair _ (h))))))))))))
def zt_giveBack (u : Zts) : Int32 × Zts :=
  let r2 := (zt_read u (ztg_lv u)).1
  let u1 := (zt_read u (ztg_lv u)).2
  let u3 := zts_sp u1 (ztg_lv u1)
  let r5 := (zt_read u3 r2).1
  let u4 := (zt_read u3 r2).2
  let u6 := zts_next u4 r5
  let r8 := (zt_read u6 (r2 + 1)).1
  let u7 := (zt_read u6 (r2 + 1)).2
  let u9 := zts_lv u7 r8
  let u10 := zt_write u9 (ztg_sp u9) (ztg_top u9)
  (9, u10)
set_option maxHeartbeats 4000000 in
set_option maxRecDepth 100000 in
theorem ztM_giveBack (l : Launch) (k : Ztk) (Dk : ZtD k) (u : Zts) {w0 : Nat → Int32} (hN : ZtG w0 4 u) : Met l yX1_giveBack (.code yX1_giveBack cX1_giveBack 2 (some .int) :: zwT) (zrm 2) (ZtB k [.ref (zta_this k)] u) (ZtQ k (some (.int (zt_giveBack u ).1)) (zt_giveBack u ).2) 0 0 (ZtA k) := by
  refine ztE_in (by decide) rfl (Nat.le_of_ble_eq_true rfl) Dk ?_
  intro p e s m below meth c ls C hr hlk hP hl
  have hx := C.1.1
  have hb := C.1.2.1
  have hl : lv_has ls 2 [(0, .ref (zta_this k))] := hl
  have hS : va_S (ZtA k) s.heap s.heap [] := va_S.rf
  refine lv_aload_n hx hb dX1_giveBack_0 rfl (lv_at hl 0 rfl) ?_
  refine lv_aload_n hx hb dX1_giveBack_1 rfl (lv_at hl 0 rfl) ?_
  refine ztG_lv C hP dX1_giveBack_2 ?_
  refine ztK_read C hP hS hl.1 (by decide) (Nat.le_of_ble_eq_true rfl) dX1_giveBack_5 (fun r2 u1 H locs hr2 hu1 hP hS => ?_)
  refine lv_istore_n (lv' := [(1, .int r2), (0, .ref (zta_this k))]) hx hb dX1_giveBack_8 rfl hl (by decide) rfl (fun ls hl => ?_)
  refine lv_aload_n hx hb dX1_giveBack_9 rfl (lv_at hl 1 rfl) ?_
  refine lv_aload_n hx hb dX1_giveBack_10 rfl (lv_at hl 1 rfl) ?_
  refine ztG_lv C hP dX1_giveBack_11 ?_
  refine ztP_sp C hP hS dX1_giveBack_14 (fun u3 H locs hu3 hP hS => ?_)
  refine lv_aload_n hx hb dX1_giveBack_17 rfl (lv_at hl 1 rfl) ?_
  refine lv_aload_n hx hb dX1_giveBack_18 rfl (lv_at hl 1 rfl) ?_
  refine lv_iload_n hx hb dX1_giveBack_19 rfl (lv_at hl 0 rfl) ?_
  refine ztK_read C hP hS hl.1 (by decide) (Nat.le_of_ble_eq_true rfl) dX1_giveBack_20 (fun r5 u4 H locs hr5 hu4 hP hS => ?_)
  refine ztP_next C hP hS dX1_giveBack_23 (fun u6 H locs hu6 hP hS => ?_)
  refine lv_aload_n hx hb dX1_giveBack_26 rfl (lv_at hl 1 rfl) ?_
  refine lv_aload_n hx hb dX1_giveBack_27 rfl (lv_at hl 1 rfl) ?_
  refine lv_iload_n hx hb dX1_giveBack_28 rfl (lv_at hl 0 rfl) ?_
  refine lv_iconst (v := 1) hx hb dX1_giveBack_29 (by decide) ?_
  refine lv_iadd hx hb dX1_giveBack_30 ?_
  refine ztK_read C hP hS hl.1 (by decide) (Nat.le_of_ble_eq_true rfl) dX1_giveBack_31 (fun r8 u7 H locs hr8 hu7 hP hS => ?_)
  refine ztP_lv C hP hS dX1_giveBack_34 (fun u9 H locs hu9 hP hS => ?_)
  refine lv_aload_n hx hb dX1_giveBack_37 rfl (lv_at hl 1 rfl) ?_
  refine lv_aload_n hx hb dX1_giveBack_38 rfl (lv_at hl 1 rfl) ?_
  refine ztG_sp C hP dX1_giveBack_39 ?_
  refine lv_aload_n hx hb dX1_giveBack_42 rfl (lv_at hl 1 rfl) ?_
  refine ztG_top C hP dX1_giveBack_43 ?_
  refine ztK_write C hP hS hl.1 (by decide) (Nat.le_of_ble_eq_true rfl) (by subst hr2 hu1 hu3 hr5 hu4 hu6 hr8 hu7 hu9; exact zt_Gle (by decide) (zt_Gs_lv _ (zt_G_read _ (zt_Gs_next _ (zt_G_read _ (zt_Gs_sp _ (zt_G_read _ (hN)))))))) dX1_giveBack_46 (fun u10 H locs hu10 hP hS => ?_)
  refine lv_bipush (v := 9) hx hb dX1_giveBack_49 (by decide) ?_
  exact zt_iret C hr hlk hP hS (by subst hr2 hu1 hu3 hr5 hu4 hu6 hr8 hu7 hu9 hu10; exact rfl) dX1_giveBack_51
section
variable {p : Program} {l : Launch} {e : Env} {R : Room} {s : State} {m : MethodId} {args : Array Value} {below : List Frame} {meth : Method} {c : Code} {H : Heap} {locs : List Loc} {Q : State → Prop} {cc : ByteArray} {pc nL : Nat} {ls : Array Slot} {rest : List Value} {k : Ztk} {u : Zts} {H0 : Heap}
set_option maxHeartbeats 4000000 in
set_option maxRecDepth 100000 in
theorem ztK_giveBack (C : ZtC p s m args c cc nL k) (hP : ZtP k u H) (hS : va_S (ZtA k) H0 H locs) (hsz : ls.size = nL) (hR : 2 + 1 ≤ R.frames ∧ 8 + (2 + 11) + 40 * 2 ≤ R.locals) (hw : (rest.map fun v => v.category).sum ≤ 8) {w0 : Nat → Int32} (hN : ZtG w0 4 u) (hdg : decode cc pc = .ok (.invokevirtual 115, 3)) (kk : ∀ (r1 : Int32) (u1 : Zts) (H1 : Heap) (locs1 : List Loc), r1 = (zt_giveBack u ).1 → u1 = (zt_giveBack u ).2 → ZtP k u1 H1 → va_S (ZtA k) H0 H1 locs1 → W p l e R s m args below meth c H1 locs1 0 0 Q (F0 m (pc + 3) ls (.int r1 :: rest))) : W p l e R s m args below meth c H locs 0 0 Q (F0 m pc ls (.ref (zta_this k) :: rest)) :=
  zt_callV (y := yX1_giveBack) (n := 0) (As := []) C (ztM_giveBack l k C.2.2 u  hN) zwT_c_giveBack zwT_l_giveBack zwT_i_giveBack zwT_v_giveBack rfl (by decide +kernel) hP hS hsz hR hw rfl hdg (fun H1 locs1 hP1 hS1 => kk _ _ H1 locs1 rfl rfl hP1 hS1)
end
theorem zt_G_giveBack {w0 : Nat → Int32} {n : Nat} {u : Zts} (hn : n ≤ 4) (h : ZtG w0 n u) : ZtG w0 (n + 1) (zt_giveBack u ).2 := by
  unfold zt_giveBack
  dsimp only
  repeat' split
  all_goals first | exact zt_Gle (by omega) (zt_G_write _ _ (by omega) (zt_Gs_lv _ (zt_G_read _ (zt_Gs_next _ (zt_G_read _ (zt_Gs_sp _ (zt_G_read _ (h))))))))

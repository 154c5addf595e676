def zt_ifs (u : Zts) (a1 : Int32) : Int32 × Zts :=
  if a1 = 159 then (
    let r46 := (zt_read u ((ztg_sp u) - 1)).1
    let u45 := (zt_read u ((ztg_sp u) - 1)).2
    if a1 = 159 then (
      let u69 := zts_sp u45 ((ztg_sp u45) - 2)
      let r71 := (zt_read u69 (ztg_sp u69)).1
      let u70 := (zt_read u69 (ztg_sp u69)).2
      let u72 := zts_top u70 r71
      if a1 = 159 then (
        if (ztg_top u) = r46 then (
          let r89 := (zt_jump u72 1 13 10).1
          let u88 := (zt_jump u72 1 13 10).2
          (r89, u88))
        else (
          let r87 := (zt_jump u72 0 13 10).1
          let u86 := (zt_jump u72 0 13 10).2
          (r87, u86)))
      else (
        if a1 = 155 then (
          if 0 ≤ (ztg_top u) then (
            let r82 := (zt_jump u72 0 11 8).1
            let u81 := (zt_jump u72 0 11 8).2
            (r82, u81))
          else (
            let r84 := (zt_jump u72 1 11 8).1
            let u83 := (zt_jump u72 1 11 8).2
            (r84, u83)))
        else (
          if (ztg_top u) = 0 then (
            let r79 := (zt_jump u72 1 11 8).1
            let u78 := (zt_jump u72 1 11 8).2
            (r79, u78))
          else (
            let r77 := (zt_jump u72 0 11 8).1
            let u76 := (zt_jump u72 0 11 8).2
            (r77, u76)))))
    else (
      let u48 := zts_sp u45 ((ztg_sp u45) - 1)
      let r50 := (zt_read u48 (ztg_sp u48)).1
      let u49 := (zt_read u48 (ztg_sp u48)).2
      let u51 := zts_top u49 r50
      if a1 = 159 then (
        if (ztg_top u) = r46 then (
          let r68 := (zt_jump u51 1 13 10).1
          let u67 := (zt_jump u51 1 13 10).2
          (r68, u67))
        else (
          let r66 := (zt_jump u51 0 13 10).1
          let u65 := (zt_jump u51 0 13 10).2
          (r66, u65)))
      else (
        if a1 = 155 then (
          if 0 ≤ (ztg_top u) then (
            let r61 := (zt_jump u51 0 11 8).1
            let u60 := (zt_jump u51 0 11 8).2
            (r61, u60))
          else (
            let r63 := (zt_jump u51 1 11 8).1
            let u62 := (zt_jump u51 1 11 8).2
            (r63, u62)))
        else (
          if (ztg_top u) = 0 then (
            let r58 := (zt_jump u51 1 11 8).1
            let u57 := (zt_jump u51 1 11 8).2
            (r58, u57))
          else (
            let r56 := (zt_jump u51 0 11 8).1
            let u55 := (zt_jump u51 0 11 8).2
            (r56, u55))))))
  else (
    if a1 = 159 then (
      let u24 := zts_sp u ((ztg_sp u) - 2)
      let r26 := (zt_read u24 (ztg_sp u24)).1
      let u25 := (zt_read u24 (ztg_sp u24)).2
      let u27 := zts_top u25 r26
      if a1 = 159 then (
        if (ztg_top u) = 0 then (
          let r44 := (zt_jump u27 1 13 10).1
          let u43 := (zt_jump u27 1 13 10).2
          (r44, u43))
        else (
          let r42 := (zt_jump u27 0 13 10).1
          let u41 := (zt_jump u27 0 13 10).2
          (r42, u41)))
      else (
        if a1 = 155 then (
          if 0 ≤ (ztg_top u) then (
            let r37 := (zt_jump u27 0 11 8).1
            let u36 := (zt_jump u27 0 11 8).2
            (r37, u36))
          else (
            let r39 := (zt_jump u27 1 11 8).1
            let u38 := (zt_jump u27 1 11 8).2
            (r39, u38)))
        else (
          if (ztg_top u) = 0 then (
            let r34 := (zt_jump u27 1 11 8).1
            let u33 := (zt_jump u27 1 11 8).2
            (r34, u33))
          else (
            let r32 := (zt_jump u27 0 11 8).1
            let u31 := (zt_jump u27 0 11 8).2
            (r32, u31)))))
    else (
      let u3 := zts_sp u ((ztg_sp u) - 1)
      let r5 := (zt_read u3 (ztg_sp u3)).1
      let u4 := (zt_read u3 (ztg_sp u3)).2
      let u6 := zts_top u4 r5
      if a1 = 159 then (
        if (ztg_top u) = 0 then (
          let r23 := (zt_jump u6 1 13 10).1
          let u22 := (zt_jump u6 1 13 10).2
          (r23, u22))
        else (
          let r21 := (zt_jump u6 0 13 10).1
          let u20 := (zt_jump u6 0 13 10).2
          (r21, u20)))
      else (
        if a1 = 155 then (
          if 0 ≤ (ztg_top u) then (
            let r16 := (zt_jump u6 0 11 8).1
            let u15 := (zt_jump u6 0 11 8).2
            (r16, u15))
          else (
            let r18 := (zt_jump u6 1 11 8).1
            let u17 := (zt_jump u6 1 11 8).2
            (r18, u17)))
        else (
          if (ztg_top u) = 0 then (
            let r13 := (zt_jump u6 1 11 8).1
            let u12 := (zt_jump u6 1 11 8).2
            (r13, u12))
          else (
            let r11 := (zt_jump u6 0 11 8).1
            let u10 := (zt_jump u6 0 11 8).2
            (r11, u10))))))
set_option maxHeartbeats 4000000 in
set_option maxRecDepth 100000 in
theorem ztM_ifs (l : Launch) (k : Ztk) (Dk : ZtD k) (u : Zts) (a1 : Int32) : Met l yX1_ifs (.code yX1_ifs cX1_ifs 4 (some .int) :: zwT) (zrm 3) (ZtB k [.ref (zta_this k), .int a1] u) (ZtQ k (some (.int (zt_ifs u a1).1)) (zt_ifs u a1).2) 0 0 (ZtA k) := by
  refine ztE_in (by decide) rfl (Nat.le_of_ble_eq_true rfl) Dk ?_
  intro p e s m below meth c ls C hr hlk hP hl
  have hx := C.1.1
  have hb := C.1.2.1
  have hl : lv_has ls 4 [(0, .ref (zta_this k)), (1, .int a1)] := hl
  have hS : va_S (ZtA k) s.heap s.heap [] := va_S.rf
  refine lv_aload_n hx hb dX1_ifs_0 rfl (lv_at hl 0 rfl) ?_
  refine ztG_top C hP dX1_ifs_1 ?_
  refine lv_istore_n (lv' := [(2, .int (ztg_top u)), (0, .ref (zta_this k)), (1, .int a1)]) hx hb dX1_ifs_4 rfl hl (by decide) rfl (fun ls hl => ?_)
  refine lv_iload_n hx hb dX1_ifs_5 rfl (lv_at hl 2 rfl) ?_
  refine lv_sipush (v := 159) hx hb dX1_ifs_6 (by decide) ?_
  refine lv_icmp_ne (tgt := 25) hx hb dX1_ifs_9 (by decide) (fun c1 => ?_) (fun c1 => ?_)
  · refine lv_iconst (v := 0) hx hb dX1_ifs_25 (by decide) ?_
    refine lv_istore_n (lv' := [(3, .int 0), (2, .int (ztg_top u)), (0, .ref (zta_this k)), (1, .int a1)]) hx hb dX1_ifs_26 rfl hl (by decide) rfl (fun ls hl => ?_)
    refine lv_aload_n hx hb dX1_ifs_27 rfl (lv_at hl 2 rfl) ?_
    refine lv_dup hx hb dX1_ifs_28 rfl ?_
    refine ztG_sp C hP dX1_ifs_29 ?_
    refine lv_iload_n hx hb dX1_ifs_32 rfl (lv_at hl 3 rfl) ?_
    refine lv_sipush (v := 159) hx hb dX1_ifs_33 (by decide) ?_
    refine lv_icmp_ne (tgt := 43) hx hb dX1_ifs_36 (by decide) (fun c2 => ?_) (fun c2 => ?_)
    · refine lv_iconst (v := 1) hx hb dX1_ifs_43 (by decide) ?_
      refine lv_isub hx hb dX1_ifs_44 ?_
      refine ztP_sp C hP hS dX1_ifs_45 (fun u3 H locs hu3 hP hS => ?_)
      refine lv_aload_n hx hb dX1_ifs_48 rfl (lv_at hl 2 rfl) ?_
      refine lv_aload_n hx hb dX1_ifs_49 rfl (lv_at hl 2 rfl) ?_
      refine lv_aload_n hx hb dX1_ifs_50 rfl (lv_at hl 2 rfl) ?_
      refine ztG_sp C hP dX1_ifs_51 ?_
      refine ztK_read C hP hS hl.1 (by decide) (Nat.le_of_ble_eq_true rfl) dX1_ifs_54 (fun r5 u4 H locs hr5 hu4 hP hS => ?_)
      refine ztP_top C hP hS dX1_ifs_57 (fun u6 H locs hu6 hP hS => ?_)
      refine lv_iload_n hx hb dX1_ifs_60 rfl (lv_at hl 3 rfl) ?_
      refine lv_sipush (v := 159) hx hb dX1_ifs_61 (by decide) ?_
      refine lv_icmp_ne (tgt := 86) hx hb dX1_ifs_64 (by decide) (fun c7 => ?_) (fun c7 => ?_)
      · refine lv_aload_n hx hb dX1_ifs_86 rfl (lv_at hl 2 rfl) ?_
        refine lv_iload_n hx hb dX1_ifs_87 rfl (lv_at hl 3 rfl) ?_
        refine lv_sipush (v := 155) hx hb dX1_ifs_88 (by decide) ?_
        refine lv_icmp_ne (tgt := 106) hx hb dX1_ifs_91 (by decide) (fun c8 => ?_) (fun c8 => ?_)
        · refine lv_iload_n hx hb dX1_ifs_106 rfl (lv_at hl 1 rfl) ?_
          refine lv_if_ne (tgt := 114) hx hb dX1_ifs_107 (by decide) (fun c9 => ?_) (fun c9 => ?_)
          · refine lv_iconst (v := 0) hx hb dX1_ifs_114 (by decide) ?_
            refine lv_bipush (v := 11) hx hb dX1_ifs_115 (by decide) ?_
            refine lv_bipush (v := 8) hx hb dX1_ifs_117 (by decide) ?_
            refine ztK_jump C hP hS hl.1 (by decide) (Nat.le_of_ble_eq_true rfl) dX1_ifs_119 (fun r11 u10 H locs hr11 hu10 hP hS => ?_)
            exact zt_iret C hr hlk hP hS (by subst hu10 hr11 hu6 hu4 hr5 hu3; first | (unfold zt_ifs; rw [if_neg c1, if_neg c2, if_neg c7, if_neg c8, if_neg c9]; done) | exact (if_neg c1).trans ((if_neg c2).trans ((if_neg c7).trans ((if_neg c8).trans ((if_neg c9).trans (rfl)))))) dX1_ifs_122
          · refine lv_iconst (v := 1) hx hb dX1_ifs_110 (by decide) ?_
            refine lv_goto (tgt := 115) hx hb dX1_ifs_111 (by decide) ?_
            refine lv_bipush (v := 11) hx hb dX1_ifs_115 (by decide) ?_
            refine lv_bipush (v := 8) hx hb dX1_ifs_117 (by decide) ?_
            refine ztK_jump C hP hS hl.1 (by decide) (Nat.le_of_ble_eq_true rfl) dX1_ifs_119 (fun r13 u12 H locs hr13 hu12 hP hS => ?_)
            exact zt_iret C hr hlk hP hS (by subst hu12 hr13 hu6 hu4 hr5 hu3; first | (unfold zt_ifs; rw [if_neg c1, if_neg c2, if_neg c7, if_neg c8, if_pos c9]; done) | exact (if_neg c1).trans ((if_neg c2).trans ((if_neg c7).trans ((if_neg c8).trans ((if_pos c9).trans (rfl)))))) dX1_ifs_122
        · refine lv_iload_n hx hb dX1_ifs_94 rfl (lv_at hl 1 rfl) ?_
          refine lv_if_ge (tgt := 102) hx hb dX1_ifs_95 (by decide) (fun c14 => ?_) (fun c14 => ?_)
          · refine lv_iconst (v := 0) hx hb dX1_ifs_102 (by decide) ?_
            refine lv_goto (tgt := 115) hx hb dX1_ifs_103 (by decide) ?_
            refine lv_bipush (v := 11) hx hb dX1_ifs_115 (by decide) ?_
            refine lv_bipush (v := 8) hx hb dX1_ifs_117 (by decide) ?_
            refine ztK_jump C hP hS hl.1 (by decide) (Nat.le_of_ble_eq_true rfl) dX1_ifs_119 (fun r16 u15 H locs hr16 hu15 hP hS => ?_)
            exact zt_iret C hr hlk hP hS (by subst hu15 hr16 hu6 hu4 hr5 hu3; first | (unfold zt_ifs; rw [if_neg c1, if_neg c2, if_neg c7, if_pos c8, if_pos c14]; done) | exact (if_neg c1).trans ((if_neg c2).trans ((if_neg c7).trans ((if_pos c8).trans ((if_pos c14).trans (rfl)))))) dX1_ifs_122
          · refine lv_iconst (v := 1) hx hb dX1_ifs_98 (by decide) ?_
            refine lv_goto (tgt := 115) hx hb dX1_ifs_99 (by decide) ?_
            refine lv_bipush (v := 11) hx hb dX1_ifs_115 (by decide) ?_
            refine lv_bipush (v := 8) hx hb dX1_ifs_117 (by decide) ?_
            refine ztK_jump C hP hS hl.1 (by decide) (Nat.le_of_ble_eq_true rfl) dX1_ifs_119 (fun r18 u17 H locs hr18 hu17 hP hS => ?_)
            exact zt_iret C hr hlk hP hS (by subst hu17 hr18 hu6 hu4 hr5 hu3; first | (unfold zt_ifs; rw [if_neg c1, if_neg c2, if_neg c7, if_pos c8, if_neg c14]; done) | exact (if_neg c1).trans ((if_neg c2).trans ((if_neg c7).trans ((if_pos c8).trans ((if_neg c14).trans (rfl)))))) dX1_ifs_122
      · refine lv_aload_n hx hb dX1_ifs_67 rfl (lv_at hl 2 rfl) ?_
        refine lv_iload_n hx hb dX1_ifs_68 rfl (lv_at hl 1 rfl) ?_
        refine lv_iload_n hx hb dX1_ifs_69 rfl (lv_at hl 0 rfl) ?_
        refine lv_icmp_ne (tgt := 77) hx hb dX1_ifs_70 (by decide) (fun c19 => ?_) (fun c19 => ?_)
        · refine lv_iconst (v := 0) hx hb dX1_ifs_77 (by decide) ?_
          refine lv_bipush (v := 13) hx hb dX1_ifs_78 (by decide) ?_
          refine lv_bipush (v := 10) hx hb dX1_ifs_80 (by decide) ?_
          refine ztK_jump C hP hS hl.1 (by decide) (Nat.le_of_ble_eq_true rfl) dX1_ifs_82 (fun r21 u20 H locs hr21 hu20 hP hS => ?_)
          exact zt_iret C hr hlk hP hS (by subst hu20 hr21 hu6 hu4 hr5 hu3; first | (unfold zt_ifs; rw [if_neg c1, if_neg c2, if_pos c7, if_neg c19]; done) | exact (if_neg c1).trans ((if_neg c2).trans ((if_pos c7).trans ((if_neg c19).trans (rfl))))) dX1_ifs_85
        · refine lv_iconst (v := 1) hx hb dX1_ifs_73 (by decide) ?_
          refine lv_goto (tgt := 78) hx hb dX1_ifs_74 (by decide) ?_
          refine lv_bipush (v := 13) hx hb dX1_ifs_78 (by decide) ?_
          refine lv_bipush (v := 10) hx hb dX1_ifs_80 (by decide) ?_
          refine ztK_jump C hP hS hl.1 (by decide) (Nat.le_of_ble_eq_true rfl) dX1_ifs_82 (fun r23 u22 H locs hr23 hu22 hP hS => ?_)
          exact zt_iret C hr hlk hP hS (by subst hu22 hr23 hu6 hu4 hr5 hu3; first | (unfold zt_ifs; rw [if_neg c1, if_neg c2, if_pos c7, if_pos c19]; done) | exact (if_neg c1).trans ((if_neg c2).trans ((if_pos c7).trans ((if_pos c19).trans (rfl))))) dX1_ifs_85
    · refine lv_iconst (v := 2) hx hb dX1_ifs_39 (by decide) ?_
      refine lv_goto (tgt := 44) hx hb dX1_ifs_40 (by decide) ?_
      refine lv_isub hx hb dX1_ifs_44 ?_
      refine ztP_sp C hP hS dX1_ifs_45 (fun u24 H locs hu24 hP hS => ?_)
      refine lv_aload_n hx hb dX1_ifs_48 rfl (lv_at hl 2 rfl) ?_
      refine lv_aload_n hx hb dX1_ifs_49 rfl (lv_at hl 2 rfl) ?_
      refine lv_aload_n hx hb dX1_ifs_50 rfl (lv_at hl 2 rfl) ?_
      refine ztG_sp C hP dX1_ifs_51 ?_
      refine ztK_read C hP hS hl.1 (by decide) (Nat.le_of_ble_eq_true rfl) dX1_ifs_54 (fun r26 u25 H locs hr26 hu25 hP hS => ?_)
      refine ztP_top C hP hS dX1_ifs_57 (fun u27 H locs hu27 hP hS => ?_)
      refine lv_iload_n hx hb dX1_ifs_60 rfl (lv_at hl 3 rfl) ?_
      refine lv_sipush (v := 159) hx hb dX1_ifs_61 (by decide) ?_
      refine lv_icmp_ne (tgt := 86) hx hb dX1_ifs_64 (by decide) (fun c28 => ?_) (fun c28 => ?_)
      · refine lv_aload_n hx hb dX1_ifs_86 rfl (lv_at hl 2 rfl) ?_
        refine lv_iload_n hx hb dX1_ifs_87 rfl (lv_at hl 3 rfl) ?_
        refine lv_sipush (v := 155) hx hb dX1_ifs_88 (by decide) ?_
        refine lv_icmp_ne (tgt := 106) hx hb dX1_ifs_91 (by decide) (fun c29 => ?_) (fun c29 => ?_)
        · refine lv_iload_n hx hb dX1_ifs_106 rfl (lv_at hl 1 rfl) ?_
          refine lv_if_ne (tgt := 114) hx hb dX1_ifs_107 (by decide) (fun c30 => ?_) (fun c30 => ?_)
          · refine lv_iconst (v := 0) hx hb dX1_ifs_114 (by decide) ?_
            refine lv_bipush (v := 11) hx hb dX1_ifs_115 (by decide) ?_
            refine lv_bipush (v := 8) hx hb dX1_ifs_117 (by decide) ?_
            refine ztK_jump C hP hS hl.1 (by decide) (Nat.le_of_ble_eq_true rfl) dX1_ifs_119 (fun r32 u31 H locs hr32 hu31 hP hS => ?_)
            exact zt_iret C hr hlk hP hS (by subst hu31 hr32 hu27 hu25 hr26 hu24; first | (unfold zt_ifs; rw [if_neg c1, if_pos c2, if_neg c28, if_neg c29, if_neg c30]; done) | exact (if_neg c1).trans ((if_pos c2).trans ((if_neg c28).trans ((if_neg c29).trans ((if_neg c30).trans (rfl)))))) dX1_ifs_122
          · refine lv_iconst (v := 1) hx hb dX1_ifs_110 (by decide) ?_
            refine lv_goto (tgt := 115) hx hb dX1_ifs_111 (by decide) ?_
            refine lv_bipush (v := 11) hx hb dX1_ifs_115 (by decide) ?_
            refine lv_bipush (v := 8) hx hb dX1_ifs_117 (by decide) ?_
            refine ztK_jump C hP hS hl.1 (by decide) (Nat.le_of_ble_eq_true rfl) dX1_ifs_119 (fun r34 u33 H locs hr34 hu33 hP hS => ?_)
            exact zt_iret C hr hlk hP hS (by subst hu33 hr34 hu27 hu25 hr26 hu24; first | (unfold zt_ifs; rw [if_neg c1, if_pos c2, if_neg c28, if_neg c29, if_pos c30]; done) | exact (if_neg c1).trans ((if_pos c2).trans ((if_neg c28).trans ((if_neg c29).trans ((if_pos c30).trans (rfl)))))) dX1_ifs_122
        · refine lv_iload_n hx hb dX1_ifs_94 rfl (lv_at hl 1 rfl) ?_
          refine lv_if_ge (tgt := 102) hx hb dX1_ifs_95 (by decide) (fun c35 => ?_) (fun c35 => ?_)
          · refine lv_iconst (v := 0) hx hb dX1_ifs_102 (by decide) ?_
            refine lv_goto (tgt := 115) hx hb dX1_ifs_103 (by decide) ?_
            refine lv_bipush (v := 11) hx hb dX1_ifs_115 (by decide) ?_
            refine lv_bipush (v := 8) hx hb dX1_ifs_117 (by decide) ?_
            refine ztK_jump C hP hS hl.1 (by decide) (Nat.le_of_ble_eq_true rfl) dX1_ifs_119 (fun r37 u36 H locs hr37 hu36 hP hS => ?_)
            exact zt_iret C hr hlk hP hS (by subst hu36 hr37 hu27 hu25 hr26 hu24; first | (unfold zt_ifs; rw [if_neg c1, if_pos c2, if_neg c28, if_pos c29, if_pos c35]; done) | exact (if_neg c1).trans ((if_pos c2).trans ((if_neg c28).trans ((if_pos c29).trans ((if_pos c35).trans (rfl)))))) dX1_ifs_122
          · refine lv_iconst (v := 1) hx hb dX1_ifs_98 (by decide) ?_
            refine lv_goto (tgt := 115) hx hb dX1_ifs_99 (by decide) ?_
            refine lv_bipush (v := 11) hx hb dX1_ifs_115 (by decide) ?_
            refine lv_bipush (v := 8) hx hb dX1_ifs_117 (by decide) ?_
            refine ztK_jump C hP hS hl.1 (by decide) (Nat.le_of_ble_eq_true rfl) dX1_ifs_119 (fun r39 u38 H locs hr39 hu38 hP hS => ?_)
            exact zt_iret C hr hlk hP hS (by subst hu38 hr39 hu27 hu25 hr26 hu24; first | (unfold zt_ifs; rw [if_neg c1, if_pos c2, if_neg c28, if_pos c29, if_neg c35]; done) | exact (if_neg c1).trans ((if_pos c2).trans ((if_neg c28).trans ((if_pos c29).trans ((if_neg c35).trans (rfl)))))) dX1_ifs_122
      · refine lv_aload_n hx hb dX1_ifs_67 rfl (lv_at hl 2 rfl) ?_
        refine lv_iload_n hx hb dX1_ifs_68 rfl (lv_at hl 1 rfl) ?_
        refine lv_iload_n hx hb dX1_ifs_69 rfl (lv_at hl 0 rfl) ?_
        refine lv_icmp_ne (tgt := 77) hx hb dX1_ifs_70 (by decide) (fun c40 => ?_) (fun c40 => ?_)
        · refine lv_iconst (v := 0) hx hb dX1_ifs_77 (by decide) ?_
          refine lv_bipush (v := 13) hx hb dX1_ifs_78 (by decide) ?_
          refine lv_bipush (v := 10) hx hb dX1_ifs_80 (by decide) ?_
          refine ztK_jump C hP hS hl.1 (by decide) (Nat.le_of_ble_eq_true rfl) dX1_ifs_82 (fun r42 u41 H locs hr42 hu41 hP hS => ?_)
          exact zt_iret C hr hlk hP hS (by subst hu41 hr42 hu27 hu25 hr26 hu24; first | (unfold zt_ifs; rw [if_neg c1, if_pos c2, if_pos c28, if_neg c40]; done) | exact (if_neg c1).trans ((if_pos c2).trans ((if_pos c28).trans ((if_neg c40).trans (rfl))))) dX1_ifs_85
        · refine lv_iconst (v := 1) hx hb dX1_ifs_73 (by decide) ?_
          refine lv_goto (tgt := 78) hx hb dX1_ifs_74 (by decide) ?_
          refine lv_bipush (v := 13) hx hb dX1_ifs_78 (by decide) ?_
          refine lv_bipush (v := 10) hx hb dX1_ifs_80 (by decide) ?_
          refine ztK_jump C hP hS hl.1 (by decide) (Nat.le_of_ble_eq_true rfl) dX1_ifs_82 (fun r44 u43 H locs hr44 hu43 hP hS => ?_)
          exact zt_iret C hr hlk hP hS (by subst hu43 hr44 hu27 hu25 hr26 hu24; first | (unfold zt_ifs; rw [if_neg c1, if_pos c2, if_pos c28, if_pos c40]; done) | exact (if_neg c1).trans ((if_pos c2).trans ((if_pos c28).trans ((if_pos c40).trans (rfl))))) dX1_ifs_85
  · refine lv_aload_n hx hb dX1_ifs_12 rfl (lv_at hl 1 rfl) ?_
    refine lv_aload_n hx hb dX1_ifs_13 rfl (lv_at hl 1 rfl) ?_
    refine ztG_sp C hP dX1_ifs_14 ?_
    refine lv_iconst (v := 1) hx hb dX1_ifs_17 (by decide) ?_
    refine lv_isub hx hb dX1_ifs_18 ?_
    refine ztK_read C hP hS hl.1 (by decide) (Nat.le_of_ble_eq_true rfl) dX1_ifs_19 (fun r46 u45 H locs hr46 hu45 hP hS => ?_)
    refine lv_goto (tgt := 26) hx hb dX1_ifs_22 (by decide) ?_
    refine lv_istore_n (lv' := [(3, .int r46), (2, .int (ztg_top u)), (0, .ref (zta_this k)), (1, .int a1)]) hx hb dX1_ifs_26 rfl hl (by decide) rfl (fun ls hl => ?_)
    refine lv_aload_n hx hb dX1_ifs_27 rfl (lv_at hl 2 rfl) ?_
    refine lv_dup hx hb dX1_ifs_28 rfl ?_
    refine ztG_sp C hP dX1_ifs_29 ?_
    refine lv_iload_n hx hb dX1_ifs_32 rfl (lv_at hl 3 rfl) ?_
    refine lv_sipush (v := 159) hx hb dX1_ifs_33 (by decide) ?_
    refine lv_icmp_ne (tgt := 43) hx hb dX1_ifs_36 (by decide) (fun c47 => ?_) (fun c47 => ?_)
    · refine lv_iconst (v := 1) hx hb dX1_ifs_43 (by decide) ?_
      refine lv_isub hx hb dX1_ifs_44 ?_
      refine ztP_sp C hP hS dX1_ifs_45 (fun u48 H locs hu48 hP hS => ?_)
      refine lv_aload_n hx hb dX1_ifs_48 rfl (lv_at hl 2 rfl) ?_
      refine lv_aload_n hx hb dX1_ifs_49 rfl (lv_at hl 2 rfl) ?_
      refine lv_aload_n hx hb dX1_ifs_50 rfl (lv_at hl 2 rfl) ?_
      refine ztG_sp C hP dX1_ifs_51 ?_
      refine ztK_read C hP hS hl.1 (by decide) (Nat.le_of_ble_eq_true rfl) dX1_ifs_54 (fun r50 u49 H locs hr50 hu49 hP hS => ?_)
      refine ztP_top C hP hS dX1_ifs_57 (fun u51 H locs hu51 hP hS => ?_)
      refine lv_iload_n hx hb dX1_ifs_60 rfl (lv_at hl 3 rfl) ?_
      refine lv_sipush (v := 159) hx hb dX1_ifs_61 (by decide) ?_
      refine lv_icmp_ne (tgt := 86) hx hb dX1_ifs_64 (by decide) (fun c52 => ?_) (fun c52 => ?_)
      · refine lv_aload_n hx hb dX1_ifs_86 rfl (lv_at hl 2 rfl) ?_
        refine lv_iload_n hx hb dX1_ifs_87 rfl (lv_at hl 3 rfl) ?_
        refine lv_sipush (v := 155) hx hb dX1_ifs_88 (by decide) ?_
        refine lv_icmp_ne (tgt := 106) hx hb dX1_ifs_91 (by decide) (fun c53 => ?_) (fun c53 => ?_)
        · refine lv_iload_n hx hb dX1_ifs_106 rfl (lv_at hl 1 rfl) ?_
          refine lv_if_ne (tgt := 114) hx hb dX1_ifs_107 (by decide) (fun c54 => ?_) (fun c54 => ?_)
          · refine lv_iconst (v := 0) hx hb dX1_ifs_114 (by decide) ?_
            refine lv_bipush (v := 11) hx hb dX1_ifs_115 (by decide) ?_
            refine lv_bipush (v := 8) hx hb dX1_ifs_117 (by decide) ?_
            refine ztK_jump C hP hS hl.1 (by decide) (Nat.le_of_ble_eq_true rfl) dX1_ifs_119 (fun r56 u55 H locs hr56 hu55 hP hS => ?_)
            exact zt_iret C hr hlk hP hS (by subst hu55 hr56 hu51 hu49 hr50 hu48 hu45 hr46; first | (unfold zt_ifs; rw [if_pos c1, if_neg c47, if_neg c52, if_neg c53, if_neg c54]; done) | exact (if_pos c1).trans ((if_neg c47).trans ((if_neg c52).trans ((if_neg c53).trans ((if_neg c54).trans (rfl)))))) dX1_ifs_122
          · refine lv_iconst (v := 1) hx hb dX1_ifs_110 (by decide) ?_
            refine lv_goto (tgt := 115) hx hb dX1_ifs_111 (by decide) ?_
            refine lv_bipush (v := 11) hx hb dX1_ifs_115 (by decide) ?_
            refine lv_bipush (v := 8) hx hb dX1_ifs_117 (by decide) ?_
            refine ztK_jump C hP hS hl.1 (by decide) (Nat.le_of_ble_eq_true rfl) dX1_ifs_119 (fun r58 u57 H locs hr58 hu57 hP hS => ?_)
            exact zt_iret C hr hlk hP hS (by subst hu57 hr58 hu51 hu49 hr50 hu48 hu45 hr46; first | (unfold zt_ifs; rw [if_pos c1, if_neg c47, if_neg c52, if_neg c53, if_pos c54]; done) | exact (if_pos c1).trans ((if_neg c47).trans ((if_neg c52).trans ((if_neg c53).trans ((if_pos c54).trans (rfl)))))) dX1_ifs_122
        · refine lv_iload_n hx hb dX1_ifs_94 rfl (lv_at hl 1 rfl) ?_
          refine lv_if_ge (tgt := 102) hx hb dX1_ifs_95 (by decide) (fun c59 => ?_) (fun c59 => ?_)
          · refine lv_iconst (v := 0) hx hb dX1_ifs_102 (by decide) ?_
            refine lv_goto (tgt := 115) hx hb dX1_ifs_103 (by decide) ?_
            refine lv_bipush (v := 11) hx hb dX1_ifs_115 (by decide) ?_
            refine lv_bipush (v := 8) hx hb dX1_ifs_117 (by decide) ?_
            refine ztK_jump C hP hS hl.1 (by decide) (Nat.le_of_ble_eq_true rfl) dX1_ifs_119 (fun r61 u60 H locs hr61 hu60 hP hS => ?_)
            exact zt_iret C hr hlk hP hS (by subst hu60 hr61 hu51 hu49 hr50 hu48 hu45 hr46; first | (unfold zt_ifs; rw [if_pos c1, if_neg c47, if_neg c52, if_pos c53, if_pos c59]; done) | exact (if_pos c1).trans ((if_neg c47).trans ((if_neg c52).trans ((if_pos c53).trans ((if_pos c59).trans (rfl)))))) dX1_ifs_122
          · refine lv_iconst (v := 1) hx hb dX1_ifs_98 (by decide) ?_
            refine lv_goto (tgt := 115) hx hb dX1_ifs_99 (by decide) ?_
            refine lv_bipush (v := 11) hx hb dX1_ifs_115 (by decide) ?_
            refine lv_bipush (v := 8) hx hb dX1_ifs_117 (by decide) ?_
            refine ztK_jump C hP hS hl.1 (by decide) (Nat.le_of_ble_eq_true rfl) dX1_ifs_119 (fun r63 u62 H locs hr63 hu62 hP hS => ?_)
            exact zt_iret C hr hlk hP hS (by subst hu62 hr63 hu51 hu49 hr50 hu48 hu45 hr46; first | (unfold zt_ifs; rw [if_pos c1, if_neg c47, if_neg c52, if_pos c53, if_neg c59]; done) | exact (if_pos c1).trans ((if_neg c47).trans ((if_neg c52).trans ((if_pos c53).trans ((if_neg c59).trans (rfl)))))) dX1_ifs_122
      · refine lv_aload_n hx hb dX1_ifs_67 rfl (lv_at hl 2 rfl) ?_
        refine lv_iload_n hx hb dX1_ifs_68 rfl (lv_at hl 1 rfl) ?_
        refine lv_iload_n hx hb dX1_ifs_69 rfl (lv_at hl 0 rfl) ?_
        refine lv_icmp_ne (tgt := 77) hx hb dX1_ifs_70 (by decide) (fun c64 => ?_) (fun c64 => ?_)
        · refine lv_iconst (v := 0) hx hb dX1_ifs_77 (by decide) ?_
          refine lv_bipush (v := 13) hx hb dX1_ifs_78 (by decide) ?_
          refine lv_bipush (v := 10) hx hb dX1_ifs_80 (by decide) ?_
          refine ztK_jump C hP hS hl.1 (by decide) (Nat.le_of_ble_eq_true rfl) dX1_ifs_82 (fun r66 u65 H locs hr66 hu65 hP hS => ?_)
          exact zt_iret C hr hlk hP hS (by subst hu65 hr66 hu51 hu49 hr50 hu48 hu45 hr46; first | (unfold zt_ifs; rw [if_pos c1, if_neg c47, if_pos c52, if_neg c64]; done) | exact (if_pos c1).trans ((if_neg c47).trans ((if_pos c52).trans ((if_neg c64).trans (rfl))))) dX1_ifs_85
        · refine lv_iconst (v := 1) hx hb dX1_ifs_73 (by decide) ?_
          refine lv_goto (tgt := 78) hx hb dX1_ifs_74 (by decide) ?_
          refine lv_bipush (v := 13) hx hb dX1_ifs_78 (by decide) ?_
          refine lv_bipush (v := 10) hx hb dX1_ifs_80 (by decide) ?_
          refine ztK_jump C hP hS hl.1 (by decide) (Nat.le_of_ble_eq_true rfl) dX1_ifs_82 (fun r68 u67 H locs hr68 hu67 hP hS => ?_)
          exact zt_iret C hr hlk hP hS (by subst hu67 hr68 hu51 hu49 hr50 hu48 hu45 hr46; first | (unfold zt_ifs; rw [if_pos c1, if_neg c47, if_pos c52, if_pos c64]; done) | exact (if_pos c1).trans ((if_neg c47).trans ((if_pos c52).trans ((if_pos c64).trans (rfl))))) dX1_ifs_85
    · refine lv_iconst (v := 2) hx hb dX1_ifs_39 (by decide) ?_
      refine lv_goto (tgt := 44) hx hb dX1_ifs_40 (by decide) ?_
      refine lv_isub hx hb dX1_ifs_44 ?_
      refine ztP_sp C hP hS dX1_ifs_45 (fun u69 H locs hu69 hP hS => ?_)
      refine lv_aload_n hx hb dX1_ifs_48 rfl (lv_at hl 2 rfl) ?_
      refine lv_aload_n hx hb dX1_ifs_49 rfl (lv_at hl 2 rfl) ?_
      refine lv_aload_n hx hb dX1_ifs_50 rfl (lv_at hl 2 rfl) ?_
      refine ztG_sp C hP dX1_ifs_51 ?_
      refine ztK_read C hP hS hl.1 (by decide) (Nat.le_of_ble_eq_true rfl) dX1_ifs_54 (fun r71 u70 H locs hr71 hu70 hP hS => ?_)
      refine ztP_top C hP hS dX1_ifs_57 (fun u72 H locs hu72 hP hS => ?_)
      refine lv_iload_n hx hb dX1_ifs_60 rfl (lv_at hl 3 rfl) ?_
      refine lv_sipush (v := 159) hx hb dX1_ifs_61 (by decide) ?_
      refine lv_icmp_ne (tgt := 86) hx hb dX1_ifs_64 (by decide) (fun c73 => ?_) (fun c73 => ?_)
      · refine lv_aload_n hx hb dX1_ifs_86 rfl (lv_at hl 2 rfl) ?_
        refine lv_iload_n hx hb dX1_ifs_87 rfl (lv_at hl 3 rfl) ?_
        refine lv_sipush (v := 155) hx hb dX1_ifs_88 (by decide) ?_
        refine lv_icmp_ne (tgt := 106) hx hb dX1_ifs_91 (by decide) (fun c74 => ?_) (fun c74 => ?_)
        · refine lv_iload_n hx hb dX1_ifs_106 rfl (lv_at hl 1 rfl) ?_
          refine lv_if_ne (tgt := 114) hx hb dX1_ifs_107 (by decide) (fun c75 => ?_) (fun c75 => ?_)
          · refine lv_iconst (v := 0) hx hb dX1_ifs_114 (by decide) ?_
            refine lv_bipush (v := 11) hx hb dX1_ifs_115 (by decide) ?_
            refine lv_bipush (v := 8) hx hb dX1_ifs_117 (by decide) ?_
            refine ztK_jump C hP hS hl.1 (by decide) (Nat.le_of_ble_eq_true rfl) dX1_ifs_119 (fun r77 u76 H locs hr77 hu76 hP hS => ?_)
            exact zt_iret C hr hlk hP hS (by subst hu76 hr77 hu72 hu70 hr71 hu69 hu45 hr46; first | (unfold zt_ifs; rw [if_pos c1, if_pos c47, if_neg c73, if_neg c74, if_neg c75]; done) | exact (if_pos c1).trans ((if_pos c47).trans ((if_neg c73).trans ((if_neg c74).trans ((if_neg c75).trans (rfl)))))) dX1_ifs_122
          · refine lv_iconst (v := 1) hx hb dX1_ifs_110 (by decide) ?_
            refine lv_goto (tgt := 115) hx hb dX1_ifs_111 (by decide) ?_
            refine lv_bipush (v := 11) hx hb dX1_ifs_115 (by decide) ?_
            refine lv_bipush (v := 8) hx hb dX1_ifs_117 (by decide) ?_
            refine ztK_jump C hP hS hl.1 (by decide) (Nat.le_of_ble_eq_true rfl) dX1_ifs_119 (fun r79 u78 H locs hr79 hu78 hP hS => ?_)
            exact zt_iret C hr hlk hP hS (by subst hu78 hr79 hu72 hu70 hr71 hu69 hu45 hr46; first | (unfold zt_ifs; rw [if_pos c1, if_pos c47, if_neg c73, if_neg c74, if_pos c75]; done) | exact (if_pos c1).trans ((if_pos c47).trans ((if_neg c73).trans ((if_neg c74).trans ((if_pos c75).trans (rfl)))))) dX1_ifs_122
        · refine lv_iload_n hx hb dX1_ifs_94 rfl (lv_at hl 1 rfl) ?_
          refine lv_if_ge (tgt := 102) hx hb dX1_ifs_95 (by decide) (fun c80 => ?_) (fun c80 => ?_)
          · refine lv_iconst (v := 0) hx hb dX1_ifs_102 (by decide) ?_
            refine lv_goto (tgt := 115) hx hb dX1_ifs_103 (by decide) ?_
            refine lv_bipush (v := 11) hx hb dX1_ifs_115 (by decide) ?_
            refine lv_bipush (v := 8) hx hb dX1_ifs_117 (by decide) ?_
            refine ztK_jump C hP hS hl.1 (by decide) (Nat.le_of_ble_eq_true rfl) dX1_ifs_119 (fun r82 u81 H locs hr82 hu81 hP hS => ?_)
            exact zt_iret C hr hlk hP hS (by subst hu81 hr82 hu72 hu70 hr71 hu69 hu45 hr46; first | (unfold zt_ifs; rw [if_pos c1, if_pos c47, if_neg c73, if_pos c74, if_pos c80]; done) | exact (if_pos c1).trans ((if_pos c47).trans ((if_neg c73).trans ((if_pos c74).trans ((if_pos c80).trans (rfl)))))) dX1_ifs_122
          · refine lv_iconst (v := 1) hx hb dX1_ifs_98 (by decide) ?_
            refine lv_goto (tgt := 115) hx hb dX1_ifs_99 (by decide) ?_
            refine lv_bipush (v := 11) hx hb dX1_ifs_115 (by decide) ?_
            refine lv_bipush (v := 8) hx hb dX1_ifs_117 (by decide) ?_
            refine ztK_jump C hP hS hl.1 (by decide) (Nat.le_of_ble_eq_true rfl) dX1_ifs_119 (fun r84 u83 H locs hr84 hu83 hP hS => ?_)
            exact zt_iret C hr hlk hP hS (by subst hu83 hr84 hu72 hu70 hr71 hu69 hu45 hr46; first | (unfold zt_ifs; rw [if_pos c1, if_pos c47, if_neg c73, if_pos c74, if_neg c80]; done) | exact (if_pos c1).trans ((if_pos c47).trans ((if_neg c73).trans ((if_pos c74).trans ((if_neg c80).trans (rfl)))))) dX1_ifs_122
      · refine lv_aload_n hx hb dX1_ifs_67 rfl (lv_at hl 2 rfl) ?_
        refine lv_iload_n hx hb dX1_ifs_68 rfl (lv_at hl 1 rfl) ?_
        refine lv_iload_n hx hb dX1_ifs_69 rfl (lv_at hl 0 rfl) ?_
        refine lv_icmp_ne (tgt := 77) hx hb dX1_ifs_70 (by decide) (fun c85 => ?_) (fun c85 => ?_)
        · refine lv_iconst (v := 0) hx hb dX1_ifs_77 (by decide) ?_
          refine lv_bipush (v := 13) hx hb dX1_ifs_78 (by decide) ?_
          refine lv_bipush (v := 10) hx hb dX1_ifs_80 (by decide) ?_
          refine ztK_jump C hP hS hl.1 (by decide) (Nat.le_of_ble_eq_true rfl) dX1_ifs_82 (fun r87 u86 H locs hr87 hu86 hP hS => ?_)
          exact zt_iret C hr hlk hP hS (by subst hu86 hr87 hu72 hu70 hr71 hu69 hu45 hr46; first | (unfold zt_ifs; rw [if_pos c1, if_pos c47, if_pos c73, if_neg c85]; done) | exact (if_pos c1).trans ((if_pos c47).trans ((if_pos c73).trans ((if_neg c85).trans (rfl))))) dX1_ifs_85
        · refine lv_iconst (v := 1) hx hb dX1_ifs_73 (by decide) ?_
          refine lv_goto (tgt := 78) hx hb dX1_ifs_74 (by decide) ?_
          refine lv_bipush (v := 13) hx hb dX1_ifs_78 (by decide) ?_
          refine lv_bipush (v := 10) hx hb dX1_ifs_80 (by decide) ?_
          refine ztK_jump C hP hS hl.1 (by decide) (Nat.le_of_ble_eq_true rfl) dX1_ifs_82 (fun r89 u88 H locs hr89 hu88 hP hS => ?_)
          exact zt_iret C hr hlk hP hS (by subst hu88 hr89 hu72 hu70 hr71 hu69 hu45 hr46; first | (unfold zt_ifs; rw [if_pos c1, if_pos c47, if_pos c73, if_pos c85]; done) | exact (if_pos c1).trans ((if_pos c47).trans ((if_pos c73).trans ((if_pos c85).trans (rfl))))) dX1_ifs_85
section
variable {p : Program} {l : Launch} {e : Env} {R : Room} {s : State} {m : MethodId} {args : Array Value} {below : List Frame} {meth : Method} {c : Code} {H : Heap} {locs : List Loc} {Q : State → Prop} {cc : ByteArray} {pc nL : Nat} {ls : Array Slot} {rest : List Value} {k : Ztk} {u : Zts} {H0 : Heap}
set_option maxHeartbeats 4000000 in
set_option maxRecDepth 100000 in
theorem ztK_ifs {a1 : Int32} (C : ZtC p s m args c cc nL k) (hP : ZtP k u H) (hS : va_S (ZtA k) H0 H locs) (hsz : ls.size = nL) (hR : 3 + 1 ≤ R.frames ∧ 8 + (4 + 11) + 40 * 3 ≤ R.locals) (hw : (rest.map fun v => v.category).sum ≤ 8) (hdg : decode cc pc = .ok (.invokevirtual 109, 3)) (kk : ∀ (r1 : Int32) (u1 : Zts) (H1 : Heap) (locs1 : List Loc), r1 = (zt_ifs u a1).1 → u1 = (zt_ifs u a1).2 → ZtP k u1 H1 → va_S (ZtA k) H0 H1 locs1 → W p l e R s m args below meth c H1 locs1 0 0 Q (F0 m (pc + 3) ls (.int r1 :: rest))) : W p l e R s m args below meth c H locs 0 0 Q (F0 m pc ls (.int a1 :: .ref (zta_this k) :: rest)) :=
  zt_callV (y := yX1_ifs) (n := 1) (As := [.int a1]) C (ztM_ifs l k C.2.2 u a1 ) zwT_c_ifs zwT_l_ifs zwT_i_ifs zwT_v_ifs rfl (by decide +kernel) hP hS hsz hR hw rfl hdg (fun H1 locs1 hP1 hS1 => kk _ _ H1 locs1 rfl rfl hP1 hS1)
end
set_option maxHeartbeats 4000000 in
theorem zt_G_ifs {w0 : Nat → Int32} {n : Nat} {u : Zts} (a1 : Int32) (h : ZtG w0 n u) : ZtG w0 (n + 0) (zt_ifs u a1).2 := by
  have gu : ZtG w0 (n + 0) u := h
  by_cases e0 : a1 = 159
  · obtain ⟨r46, hr46⟩ : ∃ z, z = (zt_read u ((ztg_sp u) - 1)).1 := ⟨_, rfl⟩
    obtain ⟨u45, hu45⟩ : ∃ z, z = (zt_read u ((ztg_sp u) - 1)).2 := ⟨_, rfl⟩
    have gu45 : ZtG w0 (n + 0) u45 := by rw [hu45]; exact zt_Gle (by omega) (zt_G_read _ gu)
    by_cases e4 : a1 = 159
    · obtain ⟨u69, hu69⟩ : ∃ z, z = zts_sp u45 ((ztg_sp u45) - 2) := ⟨_, rfl⟩
      have gu69 : ZtG w0 (n + 0) u69 := by rw [hu69]; exact zt_Gs_sp _ gu45
      obtain ⟨r71, hr71⟩ : ∃ z, z = (zt_read u69 (ztg_sp u69)).1 := ⟨_, rfl⟩
      obtain ⟨u70, hu70⟩ : ∃ z, z = (zt_read u69 (ztg_sp u69)).2 := ⟨_, rfl⟩
      have gu70 : ZtG w0 (n + 0) u70 := by rw [hu70]; exact zt_Gle (by omega) (zt_G_read _ gu69)
      obtain ⟨u72, hu72⟩ : ∃ z, z = zts_top u70 r71 := ⟨_, rfl⟩
      have gu72 : ZtG w0 (n + 0) u72 := by rw [hu72]; exact zt_Gs_top _ gu70
      by_cases e12 : a1 = 159
      · by_cases e13 : (ztg_top u) = r46
        · obtain ⟨r89, hr89⟩ : ∃ z, z = (zt_jump u72 1 13 10).1 := ⟨_, rfl⟩
          obtain ⟨u88, hu88⟩ : ∃ z, z = (zt_jump u72 1 13 10).2 := ⟨_, rfl⟩
          have gu88 : ZtG w0 (n + 0) u88 := by rw [hu88]; exact zt_Gle (by omega) (zt_G_jump _ _ _ gu72)
          have eq9 : zt_ifs u a1 = (r89, u88) := by subst hu88 hr89 hu72 hu70 hr71 hu69 hu45 hr46; first | (unfold zt_ifs; rw [if_pos e0, if_pos e4, if_pos e12, if_pos e13]; done) | exact (if_pos e0).trans ((if_pos e4).trans ((if_pos e12).trans ((if_pos e13).trans (rfl))))
          rw [eq9]; exact zt_Gle (by omega) gu88
        · obtain ⟨r87, hr87⟩ : ∃ z, z = (zt_jump u72 0 13 10).1 := ⟨_, rfl⟩
          obtain ⟨u86, hu86⟩ : ∃ z, z = (zt_jump u72 0 13 10).2 := ⟨_, rfl⟩
          have gu86 : ZtG w0 (n + 0) u86 := by rw [hu86]; exact zt_Gle (by omega) (zt_G_jump _ _ _ gu72)
          have eq9 : zt_ifs u a1 = (r87, u86) := by subst hu86 hr87 hu72 hu70 hr71 hu69 hu45 hr46; first | (unfold zt_ifs; rw [if_pos e0, if_pos e4, if_pos e12, if_neg e13]; done) | exact (if_pos e0).trans ((if_pos e4).trans ((if_pos e12).trans ((if_neg e13).trans (rfl))))
          rw [eq9]; exact zt_Gle (by omega) gu86
      · by_cases e24 : a1 = 155
        · by_cases e25 : 0 ≤ (ztg_top u)
          · obtain ⟨r82, hr82⟩ : ∃ z, z = (zt_jump u72 0 11 8).1 := ⟨_, rfl⟩
            obtain ⟨u81, hu81⟩ : ∃ z, z = (zt_jump u72 0 11 8).2 := ⟨_, rfl⟩
            have gu81 : ZtG w0 (n + 0) u81 := by rw [hu81]; exact zt_Gle (by omega) (zt_G_jump _ _ _ gu72)
            have eq9 : zt_ifs u a1 = (r82, u81) := by subst hu81 hr82 hu72 hu70 hr71 hu69 hu45 hr46; first | (unfold zt_ifs; rw [if_pos e0, if_pos e4, if_neg e12, if_pos e24, if_pos e25]; done) | exact (if_pos e0).trans ((if_pos e4).trans ((if_neg e12).trans ((if_pos e24).trans ((if_pos e25).trans (rfl)))))
            rw [eq9]; exact zt_Gle (by omega) gu81
          · obtain ⟨r84, hr84⟩ : ∃ z, z = (zt_jump u72 1 11 8).1 := ⟨_, rfl⟩
            obtain ⟨u83, hu83⟩ : ∃ z, z = (zt_jump u72 1 11 8).2 := ⟨_, rfl⟩
            have gu83 : ZtG w0 (n + 0) u83 := by rw [hu83]; exact zt_Gle (by omega) (zt_G_jump _ _ _ gu72)
            have eq9 : zt_ifs u a1 = (r84, u83) := by subst hu83 hr84 hu72 hu70 hr71 hu69 hu45 hr46; first | (unfold zt_ifs; rw [if_pos e0, if_pos e4, if_neg e12, if_pos e24, if_neg e25]; done) | exact (if_pos e0).trans ((if_pos e4).trans ((if_neg e12).trans ((if_pos e24).trans ((if_neg e25).trans (rfl)))))
            rw [eq9]; exact zt_Gle (by omega) gu83
        · by_cases e36 : (ztg_top u) = 0
          · obtain ⟨r79, hr79⟩ : ∃ z, z = (zt_jump u72 1 11 8).1 := ⟨_, rfl⟩
            obtain ⟨u78, hu78⟩ : ∃ z, z = (zt_jump u72 1 11 8).2 := ⟨_, rfl⟩
            have gu78 : ZtG w0 (n + 0) u78 := by rw [hu78]; exact zt_Gle (by omega) (zt_G_jump _ _ _ gu72)
            have eq9 : zt_ifs u a1 = (r79, u78) := by subst hu78 hr79 hu72 hu70 hr71 hu69 hu45 hr46; first | (unfold zt_ifs; rw [if_pos e0, if_pos e4, if_neg e12, if_neg e24, if_pos e36]; done) | exact (if_pos e0).trans ((if_pos e4).trans ((if_neg e12).trans ((if_neg e24).trans ((if_pos e36).trans (rfl)))))
            rw [eq9]; exact zt_Gle (by omega) gu78
          · obtain ⟨r77, hr77⟩ : ∃ z, z = (zt_jump u72 0 11 8).1 := ⟨_, rfl⟩
            obtain ⟨u76, hu76⟩ : ∃ z, z = (zt_jump u72 0 11 8).2 := ⟨_, rfl⟩
            have gu76 : ZtG w0 (n + 0) u76 := by rw [hu76]; exact zt_Gle (by omega) (zt_G_jump _ _ _ gu72)
            have eq9 : zt_ifs u a1 = (r77, u76) := by subst hu76 hr77 hu72 hu70 hr71 hu69 hu45 hr46; first | (unfold zt_ifs; rw [if_pos e0, if_pos e4, if_neg e12, if_neg e24, if_neg e36]; done) | exact (if_pos e0).trans ((if_pos e4).trans ((if_neg e12).trans ((if_neg e24).trans ((if_neg e36).trans (rfl)))))
            rw [eq9]; exact zt_Gle (by omega) gu76
    · obtain ⟨u48, hu48⟩ : ∃ z, z = zts_sp u45 ((ztg_sp u45) - 1) := ⟨_, rfl⟩
      have gu48 : ZtG w0 (n + 0) u48 := by rw [hu48]; exact zt_Gs_sp _ gu45
      obtain ⟨r50, hr50⟩ : ∃ z, z = (zt_read u48 (ztg_sp u48)).1 := ⟨_, rfl⟩
      obtain ⟨u49, hu49⟩ : ∃ z, z = (zt_read u48 (ztg_sp u48)).2 := ⟨_, rfl⟩
      have gu49 : ZtG w0 (n + 0) u49 := by rw [hu49]; exact zt_Gle (by omega) (zt_G_read _ gu48)
      obtain ⟨u51, hu51⟩ : ∃ z, z = zts_top u49 r50 := ⟨_, rfl⟩
      have gu51 : ZtG w0 (n + 0) u51 := by rw [hu51]; exact zt_Gs_top _ gu49
      by_cases e54 : a1 = 159
      · by_cases e55 : (ztg_top u) = r46
        · obtain ⟨r68, hr68⟩ : ∃ z, z = (zt_jump u51 1 13 10).1 := ⟨_, rfl⟩
          obtain ⟨u67, hu67⟩ : ∃ z, z = (zt_jump u51 1 13 10).2 := ⟨_, rfl⟩
          have gu67 : ZtG w0 (n + 0) u67 := by rw [hu67]; exact zt_Gle (by omega) (zt_G_jump _ _ _ gu51)
          have eq9 : zt_ifs u a1 = (r68, u67) := by subst hu67 hr68 hu51 hu49 hr50 hu48 hu45 hr46; first | (unfold zt_ifs; rw [if_pos e0, if_neg e4, if_pos e54, if_pos e55]; done) | exact (if_pos e0).trans ((if_neg e4).trans ((if_pos e54).trans ((if_pos e55).trans (rfl))))
          rw [eq9]; exact zt_Gle (by omega) gu67
        · obtain ⟨r66, hr66⟩ : ∃ z, z = (zt_jump u51 0 13 10).1 := ⟨_, rfl⟩
          obtain ⟨u65, hu65⟩ : ∃ z, z = (zt_jump u51 0 13 10).2 := ⟨_, rfl⟩
          have gu65 : ZtG w0 (n + 0) u65 := by rw [hu65]; exact zt_Gle (by omega) (zt_G_jump _ _ _ gu51)
          have eq9 : zt_ifs u a1 = (r66, u65) := by subst hu65 hr66 hu51 hu49 hr50 hu48 hu45 hr46; first | (unfold zt_ifs; rw [if_pos e0, if_neg e4, if_pos e54, if_neg e55]; done) | exact (if_pos e0).trans ((if_neg e4).trans ((if_pos e54).trans ((if_neg e55).trans (rfl))))
          rw [eq9]; exact zt_Gle (by omega) gu65
      · by_cases e66 : a1 = 155
        · by_cases e67 : 0 ≤ (ztg_top u)
          · obtain ⟨r61, hr61⟩ : ∃ z, z = (zt_jump u51 0 11 8).1 := ⟨_, rfl⟩
            obtain ⟨u60, hu60⟩ : ∃ z, z = (zt_jump u51 0 11 8).2 := ⟨_, rfl⟩
            have gu60 : ZtG w0 (n + 0) u60 := by rw [hu60]; exact zt_Gle (by omega) (zt_G_jump _ _ _ gu51)
            have eq9 : zt_ifs u a1 = (r61, u60) := by subst hu60 hr61 hu51 hu49 hr50 hu48 hu45 hr46; first | (unfold zt_ifs; rw [if_pos e0, if_neg e4, if_neg e54, if_pos e66, if_pos e67]; done) | exact (if_pos e0).trans ((if_neg e4).trans ((if_neg e54).trans ((if_pos e66).trans ((if_pos e67).trans (rfl)))))
            rw [eq9]; exact zt_Gle (by omega) gu60
          · obtain ⟨r63, hr63⟩ : ∃ z, z = (zt_jump u51 1 11 8).1 := ⟨_, rfl⟩
            obtain ⟨u62, hu62⟩ : ∃ z, z = (zt_jump u51 1 11 8).2 := ⟨_, rfl⟩
            have gu62 : ZtG w0 (n + 0) u62 := by rw [hu62]; exact zt_Gle (by omega) (zt_G_jump _ _ _ gu51)
            have eq9 : zt_ifs u a1 = (r63, u62) := by subst hu62 hr63 hu51 hu49 hr50 hu48 hu45 hr46; first | (unfold zt_ifs; rw [if_pos e0, if_neg e4, if_neg e54, if_pos e66, if_neg e67]; done) | exact (if_pos e0).trans ((if_neg e4).trans ((if_neg e54).trans ((if_pos e66).trans ((if_neg e67).trans (rfl)))))
            rw [eq9]; exact zt_Gle (by omega) gu62
        · by_cases e78 : (ztg_top u) = 0
          · obtain ⟨r58, hr58⟩ : ∃ z, z = (zt_jump u51 1 11 8).1 := ⟨_, rfl⟩
            obtain ⟨u57, hu57⟩ : ∃ z, z = (zt_jump u51 1 11 8).2 := ⟨_, rfl⟩
            have gu57 : ZtG w0 (n + 0) u57 := by rw [hu57]; exact zt_Gle (by omega) (zt_G_jump _ _ _ gu51)
            have eq9 : zt_ifs u a1 = (r58, u57) := by subst hu57 hr58 hu51 hu49 hr50 hu48 hu45 hr46; first | (unfold zt_ifs; rw [if_pos e0, if_neg e4, if_neg e54, if_neg e66, if_pos e78]; done) | exact (if_pos e0).trans ((if_neg e4).trans ((if_neg e54).trans ((if_neg e66).trans ((if_pos e78).trans (rfl)))))
            rw [eq9]; exact zt_Gle (by omega) gu57
          · obtain ⟨r56, hr56⟩ : ∃ z, z = (zt_jump u51 0 11 8).1 := ⟨_, rfl⟩
            obtain ⟨u55, hu55⟩ : ∃ z, z = (zt_jump u51 0 11 8).2 := ⟨_, rfl⟩
            have gu55 : ZtG w0 (n + 0) u55 := by rw [hu55]; exact zt_Gle (by omega) (zt_G_jump _ _ _ gu51)
            have eq9 : zt_ifs u a1 = (r56, u55) := by subst hu55 hr56 hu51 hu49 hr50 hu48 hu45 hr46; first | (unfold zt_ifs; rw [if_pos e0, if_neg e4, if_neg e54, if_neg e66, if_neg e78]; done) | exact (if_pos e0).trans ((if_neg e4).trans ((if_neg e54).trans ((if_neg e66).trans ((if_neg e78).trans (rfl)))))
            rw [eq9]; exact zt_Gle (by omega) gu55
  · by_cases e89 : a1 = 159
    · obtain ⟨u24, hu24⟩ : ∃ z, z = zts_sp u ((ztg_sp u) - 2) := ⟨_, rfl⟩
      have gu24 : ZtG w0 (n + 0) u24 := by rw [hu24]; exact zt_Gs_sp _ gu
      obtain ⟨r26, hr26⟩ : ∃ z, z = (zt_read u24 (ztg_sp u24)).1 := ⟨_, rfl⟩
      obtain ⟨u25, hu25⟩ : ∃ z, z = (zt_read u24 (ztg_sp u24)).2 := ⟨_, rfl⟩
      have gu25 : ZtG w0 (n + 0) u25 := by rw [hu25]; exact zt_Gle (by omega) (zt_G_read _ gu24)
      obtain ⟨u27, hu27⟩ : ∃ z, z = zts_top u25 r26 := ⟨_, rfl⟩
      have gu27 : ZtG w0 (n + 0) u27 := by rw [hu27]; exact zt_Gs_top _ gu25
      by_cases e97 : a1 = 159
      · by_cases e98 : (ztg_top u) = 0
        · obtain ⟨r44, hr44⟩ : ∃ z, z = (zt_jump u27 1 13 10).1 := ⟨_, rfl⟩
          obtain ⟨u43, hu43⟩ : ∃ z, z = (zt_jump u27 1 13 10).2 := ⟨_, rfl⟩
          have gu43 : ZtG w0 (n + 0) u43 := by rw [hu43]; exact zt_Gle (by omega) (zt_G_jump _ _ _ gu27)
          have eq9 : zt_ifs u a1 = (r44, u43) := by subst hu43 hr44 hu27 hu25 hr26 hu24; first | (unfold zt_ifs; rw [if_neg e0, if_pos e89, if_pos e97, if_pos e98]; done) | exact (if_neg e0).trans ((if_pos e89).trans ((if_pos e97).trans ((if_pos e98).trans (rfl))))
          rw [eq9]; exact zt_Gle (by omega) gu43
        · obtain ⟨r42, hr42⟩ : ∃ z, z = (zt_jump u27 0 13 10).1 := ⟨_, rfl⟩
          obtain ⟨u41, hu41⟩ : ∃ z, z = (zt_jump u27 0 13 10).2 := ⟨_, rfl⟩
          have gu41 : ZtG w0 (n + 0) u41 := by rw [hu41]; exact zt_Gle (by omega) (zt_G_jump _ _ _ gu27)
          have eq9 : zt_ifs u a1 = (r42, u41) := by subst hu41 hr42 hu27 hu25 hr26 hu24; first | (unfold zt_ifs; rw [if_neg e0, if_pos e89, if_pos e97, if_neg e98]; done) | exact (if_neg e0).trans ((if_pos e89).trans ((if_pos e97).trans ((if_neg e98).trans (rfl))))
          rw [eq9]; exact zt_Gle (by omega) gu41
      · by_cases e109 : a1 = 155
        · by_cases e110 : 0 ≤ (ztg_top u)
          · obtain ⟨r37, hr37⟩ : ∃ z, z = (zt_jump u27 0 11 8).1 := ⟨_, rfl⟩
            obtain ⟨u36, hu36⟩ : ∃ z, z = (zt_jump u27 0 11 8).2 := ⟨_, rfl⟩
            have gu36 : ZtG w0 (n + 0) u36 := by rw [hu36]; exact zt_Gle (by omega) (zt_G_jump _ _ _ gu27)
            have eq9 : zt_ifs u a1 = (r37, u36) := by subst hu36 hr37 hu27 hu25 hr26 hu24; first | (unfold zt_ifs; rw [if_neg e0, if_pos e89, if_neg e97, if_pos e109, if_pos e110]; done) | exact (if_neg e0).trans ((if_pos e89).trans ((if_neg e97).trans ((if_pos e109).trans ((if_pos e110).trans (rfl)))))
            rw [eq9]; exact zt_Gle (by omega) gu36
          · obtain ⟨r39, hr39⟩ : ∃ z, z = (zt_jump u27 1 11 8).1 := ⟨_, rfl⟩
            obtain ⟨u38, hu38⟩ : ∃ z, z = (zt_jump u27 1 11 8).2 := ⟨_, rfl⟩
            have gu38 : ZtG w0 (n + 0) u38 := by rw [hu38]; exact zt_Gle (by omega) (zt_G_jump _ _ _ gu27)
            have eq9 : zt_ifs u a1 = (r39, u38) := by subst hu38 hr39 hu27 hu25 hr26 hu24; first | (unfold zt_ifs; rw [if_neg e0, if_pos e89, if_neg e97, if_pos e109, if_neg e110]; done) | exact (if_neg e0).trans ((if_pos e89).trans ((if_neg e97).trans ((if_pos e109).trans ((if_neg e110).trans (rfl)))))
            rw [eq9]; exact zt_Gle (by omega) gu38
        · by_cases e121 : (ztg_top u) = 0
          · obtain ⟨r34, hr34⟩ : ∃ z, z = (zt_jump u27 1 11 8).1 := ⟨_, rfl⟩
            obtain ⟨u33, hu33⟩ : ∃ z, z = (zt_jump u27 1 11 8).2 := ⟨_, rfl⟩
            have gu33 : ZtG w0 (n + 0) u33 := by rw [hu33]; exact zt_Gle (by omega) (zt_G_jump _ _ _ gu27)
            have eq9 : zt_ifs u a1 = (r34, u33) := by subst hu33 hr34 hu27 hu25 hr26 hu24; first | (unfold zt_ifs; rw [if_neg e0, if_pos e89, if_neg e97, if_neg e109, if_pos e121]; done) | exact (if_neg e0).trans ((if_pos e89).trans ((if_neg e97).trans ((if_neg e109).trans ((if_pos e121).trans (rfl)))))
            rw [eq9]; exact zt_Gle (by omega) gu33
          · obtain ⟨r32, hr32⟩ : ∃ z, z = (zt_jump u27 0 11 8).1 := ⟨_, rfl⟩
            obtain ⟨u31, hu31⟩ : ∃ z, z = (zt_jump u27 0 11 8).2 := ⟨_, rfl⟩
            have gu31 : ZtG w0 (n + 0) u31 := by rw [hu31]; exact zt_Gle (by omega) (zt_G_jump _ _ _ gu27)
            have eq9 : zt_ifs u a1 = (r32, u31) := by subst hu31 hr32 hu27 hu25 hr26 hu24; first | (unfold zt_ifs; rw [if_neg e0, if_pos e89, if_neg e97, if_neg e109, if_neg e121]; done) | exact (if_neg e0).trans ((if_pos e89).trans ((if_neg e97).trans ((if_neg e109).trans ((if_neg e121).trans (rfl)))))
            rw [eq9]; exact zt_Gle (by omega) gu31
    · obtain ⟨u3, hu3⟩ : ∃ z, z = zts_sp u ((ztg_sp u) - 1) := ⟨_, rfl⟩
      have gu3 : ZtG w0 (n + 0) u3 := by rw [hu3]; exact zt_Gs_sp _ gu
      obtain ⟨r5, hr5⟩ : ∃ z, z = (zt_read u3 (ztg_sp u3)).1 := ⟨_, rfl⟩
      obtain ⟨u4, hu4⟩ : ∃ z, z = (zt_read u3 (ztg_sp u3)).2 := ⟨_, rfl⟩
      have gu4 : ZtG w0 (n + 0) u4 := by rw [hu4]; exact zt_Gle (by omega) (zt_G_read _ gu3)
      obtain ⟨u6, hu6⟩ : ∃ z, z = zts_top u4 r5 := ⟨_, rfl⟩
      have gu6 : ZtG w0 (n + 0) u6 := by rw [hu6]; exact zt_Gs_top _ gu4
      by_cases e139 : a1 = 159
      · by_cases e140 : (ztg_top u) = 0
        · obtain ⟨r23, hr23⟩ : ∃ z, z = (zt_jump u6 1 13 10).1 := ⟨_, rfl⟩
          obtain ⟨u22, hu22⟩ : ∃ z, z = (zt_jump u6 1 13 10).2 := ⟨_, rfl⟩
          have gu22 : ZtG w0 (n + 0) u22 := by rw [hu22]; exact zt_Gle (by omega) (zt_G_jump _ _ _ gu6)
          have eq9 : zt_ifs u a1 = (r23, u22) := by subst hu22 hr23 hu6 hu4 hr5 hu3; first | (unfold zt_ifs; rw [if_neg e0, if_neg e89, if_pos e139, if_pos e140]; done) | exact (if_neg e0).trans ((if_neg e89).trans ((if_pos e139).trans ((if_pos e140).trans (rfl))))
          rw [eq9]; exact zt_Gle (by omega) gu22
        · obtain ⟨r21, hr21⟩ : ∃ z, z = (zt_jump u6 0 13 10).1 := ⟨_, rfl⟩
          obtain ⟨u20, hu20⟩ : ∃ z, z = (zt_jump u6 0 13 10).2 := ⟨_, rfl⟩
          have gu20 : ZtG w0 (n + 0) u20 := by rw [hu20]; exact zt_Gle (by omega) (zt_G_jump _ _ _ gu6)
          have eq9 : zt_ifs u a1 = (r21, u20) := by subst hu20 hr21 hu6 hu4 hr5 hu3; first | (unfold zt_ifs; rw [if_neg e0, if_neg e89, if_pos e139, if_neg e140]; done) | exact (if_neg e0).trans ((if_neg e89).trans ((if_pos e139).trans ((if_neg e140).trans (rfl))))
          rw [eq9]; exact zt_Gle (by omega) gu20
      · by_cases e151 : a1 = 155
        · by_cases e152 : 0 ≤ (ztg_top u)
          · obtain ⟨r16, hr16⟩ : ∃ z, z = (zt_jump u6 0 11 8).1 := ⟨_, rfl⟩
            obtain ⟨u15, hu15⟩ : ∃ z, z = (zt_jump u6 0 11 8).2 := ⟨_, rfl⟩
            have gu15 : ZtG w0 (n + 0) u15 := by rw [hu15]; exact zt_Gle (by omega) (zt_G_jump _ _ _ gu6)
            have eq9 : zt_ifs u a1 = (r16, u15) := by subst hu15 hr16 hu6 hu4 hr5 hu3; first | (unfold zt_ifs; rw [if_neg e0, if_neg e89, if_neg e139, if_pos e151, if_pos e152]; done) | exact (if_neg e0).trans ((if_neg e89).trans ((if_neg e139).trans ((if_pos e151).trans ((if_pos e152).trans (rfl)))))
            rw [eq9]; exact zt_Gle (by omega) gu15
          · obtain ⟨r18, hr18⟩ : ∃ z, z = (zt_jump u6 1 11 8).1 := ⟨_, rfl⟩
            obtain ⟨u17, hu17⟩ : ∃ z, z = (zt_jump u6 1 11 8).2 := ⟨_, rfl⟩
            have gu17 : ZtG w0 (n + 0) u17 := by rw [hu17]; exact zt_Gle (by omega) (zt_G_jump _ _ _ gu6)
            have eq9 : zt_ifs u a1 = (r18, u17) := by subst hu17 hr18 hu6 hu4 hr5 hu3; first | (unfold zt_ifs; rw [if_neg e0, if_neg e89, if_neg e139, if_pos e151, if_neg e152]; done) | exact (if_neg e0).trans ((if_neg e89).trans ((if_neg e139).trans ((if_pos e151).trans ((if_neg e152).trans (rfl)))))
            rw [eq9]; exact zt_Gle (by omega) gu17
        · by_cases e163 : (ztg_top u) = 0
          · obtain ⟨r13, hr13⟩ : ∃ z, z = (zt_jump u6 1 11 8).1 := ⟨_, rfl⟩
            obtain ⟨u12, hu12⟩ : ∃ z, z = (zt_jump u6 1 11 8).2 := ⟨_, rfl⟩
            have gu12 : ZtG w0 (n + 0) u12 := by rw [hu12]; exact zt_Gle (by omega) (zt_G_jump _ _ _ gu6)
            have eq9 : zt_ifs u a1 = (r13, u12) := by subst hu12 hr13 hu6 hu4 hr5 hu3; first | (unfold zt_ifs; rw [if_neg e0, if_neg e89, if_neg e139, if_neg e151, if_pos e163]; done) | exact (if_neg e0).trans ((if_neg e89).trans ((if_neg e139).trans ((if_neg e151).trans ((if_pos e163).trans (rfl)))))
            rw [eq9]; exact zt_Gle (by omega) gu12
          · obtain ⟨r11, hr11⟩ : ∃ z, z = (zt_jump u6 0 11 8).1 := ⟨_, rfl⟩
            obtain ⟨u10, hu10⟩ : ∃ z, z = (zt_jump u6 0 11 8).2 := ⟨_, rfl⟩
            have gu10 : ZtG w0 (n + 0) u10 := by rw [hu10]; exact zt_Gle (by omega) (zt_G_jump _ _ _ gu6)
            have eq9 : zt_ifs u a1 = (r11, u10) := by subst hu10 hr11 hu6 hu4 hr5 hu3; first | (unfold zt_ifs; rw [if_neg e0, if_neg e89, if_neg e139, if_neg e151, if_neg e163]; done) | exact (if_neg e0).trans ((if_neg e89).trans ((if_neg e139).trans ((if_neg e151).trans ((if_neg e163).trans (rfl)))))
            rw [eq9]; exact zt_Gle (by omega) gu10

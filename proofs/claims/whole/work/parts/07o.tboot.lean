def zt_boot (u : Zts) (a1 a2 a3 a4 : Int32) : Zts :=
  let u1 := zts_thrown u 0
  let u2 := zts_pc u1 a1
  let u3 := zts_sp u2 a2
  let u4 := zts_lv u3 a3
  let u5 := zts_cpp u4 a4
  if (zt_isWord (ztg_sp u5)) = 0 then (
    let u7 := zts_top u5 0
    let u8 := zts_state u7 0
    let u9 := zts_cycles u8 0
    let u10 := zts_done u9 0
    u10)
  else (
    let u11 := zts_top u5 (ztg_words u5 (ztg_sp u5).toNatClampNeg)
    let u12 := zts_state u11 0
    let u13 := zts_cycles u12 0
    let u14 := zts_done u13 0
    u14)
set_option maxHeartbeats 4000000 in
set_option maxRecDepth 100000 in
theorem ztM_boot (l : Launch) (k : Ztk) (Dk : ZtD k) (u : Zts) (a1 a2 a3 a4 : Int32) : Met l yX1_boot (.code yX1_boot cX1_boot 5 none :: zwT) (zrm 1) (ZtB k [.ref (zta_this k), .int a1, .int a2, .int a3, .int a4] u) (ZtQ k none (zt_boot u a1 a2 a3 a4)) 0 0 (ZtA k) := by
  refine ztE_in (by decide) rfl (Nat.le_of_ble_eq_true rfl) Dk ?_
  intro p e s m below meth c ls C hr hlk hP hl
  have hx := C.1.1
  have hb := C.1.2.1
  have hl : lv_has ls 5 [(0, .ref (zta_this k)), (1, .int a1), (2, .int a2), (3, .int a3), (4, .int a4)] := hl
  have hS : va_S (ZtA k) s.heap s.heap [] := va_S.rf
  refine lv_aload_n hx hb dX1_boot_0 rfl (lv_at hl 0 rfl) ?_
  refine lv_iconst (v := 0) hx hb dX1_boot_1 (by decide) ?_
  refine ztP_thrown C hP hS dX1_boot_2 (fun u1 H locs hu1 hP hS => ?_)
  refine lv_aload_n hx hb dX1_boot_5 rfl (lv_at hl 0 rfl) ?_
  refine lv_iload_n hx hb dX1_boot_6 rfl (lv_at hl 1 rfl) ?_
  refine ztP_pc C hP hS dX1_boot_7 (fun u2 H locs hu2 hP hS => ?_)
  refine lv_aload_n hx hb dX1_boot_10 rfl (lv_at hl 0 rfl) ?_
  refine lv_iload_n hx hb dX1_boot_11 rfl (lv_at hl 2 rfl) ?_
  refine ztP_sp C hP hS dX1_boot_12 (fun u3 H locs hu3 hP hS => ?_)
  refine lv_aload_n hx hb dX1_boot_15 rfl (lv_at hl 0 rfl) ?_
  refine lv_iload_n hx hb dX1_boot_16 rfl (lv_at hl 3 rfl) ?_
  refine ztP_lv C hP hS dX1_boot_17 (fun u4 H locs hu4 hP hS => ?_)
  refine lv_aload_n hx hb dX1_boot_20 rfl (lv_at hl 0 rfl) ?_
  refine lv_iload hx hb dX1_boot_21 (lv_at hl 4 rfl) ?_
  refine ztP_cpp C hP hS dX1_boot_23 (fun u5 H locs hu5 hP hS => ?_)
  refine lv_aload_n hx hb dX1_boot_26 rfl (lv_at hl 0 rfl) ?_
  refine lv_aload_n hx hb dX1_boot_27 rfl (lv_at hl 0 rfl) ?_
  refine ztG_sp C hP dX1_boot_28 ?_
  refine ztK_isWord C hl.1 (by decide) (Nat.le_of_ble_eq_true rfl) dX1_boot_31 ?_
  refine lv_if_eq (tgt := 49) hx hb dX1_boot_34 (by decide) (fun c6 => ?_) (fun c6 => ?_)
  · refine lv_iconst (v := 0) hx hb dX1_boot_49 (by decide) ?_
    refine ztP_top C hP hS dX1_boot_50 (fun u7 H locs hu7 hP hS => ?_)
    refine lv_aload_n hx hb dX1_boot_53 rfl (lv_at hl 0 rfl) ?_
    refine lv_iconst (v := 0) hx hb dX1_boot_54 (by decide) ?_
    refine ztP_state C hP hS dX1_boot_55 (fun u8 H locs hu8 hP hS => ?_)
    refine lv_aload_n hx hb dX1_boot_58 rfl (lv_at hl 0 rfl) ?_
    refine lv_iconst (v := 0) hx hb dX1_boot_59 (by decide) ?_
    refine ztP_cycles C hP hS dX1_boot_60 (fun u9 H locs hu9 hP hS => ?_)
    refine lv_aload_n hx hb dX1_boot_63 rfl (lv_at hl 0 rfl) ?_
    refine lv_iconst (v := 0) hx hb dX1_boot_64 (by decide) ?_
    refine ztP_done C hP hS dX1_boot_65 (fun u10 H locs hu10 hP hS => ?_)
    exact zt_vret C hr hlk hP hS (by subst hu10 hu9 hu8 hu7 hu5 hu4 hu3 hu2 hu1; first | (unfold zt_boot; rw [if_pos c6]; done) | exact (if_pos c6).trans (rfl)) dX1_boot_68
  · refine lv_aload_n hx hb dX1_boot_37 rfl (lv_at hl 0 rfl) ?_
    refine ztG_words C hP dX1_boot_38 ?_
    refine lv_aload_n hx hb dX1_boot_41 rfl (lv_at hl 0 rfl) ?_
    refine ztG_sp C hP dX1_boot_42 ?_
    refine ztL_words C hP (by first | with_reducible assumption | with_reducible exact zt_in (by with_reducible assumption) | with_reducible exact zt_inb (by with_reducible assumption) (by with_reducible assumption)) dX1_boot_45 ?_
    refine lv_goto (tgt := 50) hx hb dX1_boot_46 (by decide) ?_
    refine ztP_top C hP hS dX1_boot_50 (fun u11 H locs hu11 hP hS => ?_)
    refine lv_aload_n hx hb dX1_boot_53 rfl (lv_at hl 0 rfl) ?_
    refine lv_iconst (v := 0) hx hb dX1_boot_54 (by decide) ?_
    refine ztP_state C hP hS dX1_boot_55 (fun u12 H locs hu12 hP hS => ?_)
    refine lv_aload_n hx hb dX1_boot_58 rfl (lv_at hl 0 rfl) ?_
    refine lv_iconst (v := 0) hx hb dX1_boot_59 (by decide) ?_
    refine ztP_cycles C hP hS dX1_boot_60 (fun u13 H locs hu13 hP hS => ?_)
    refine lv_aload_n hx hb dX1_boot_63 rfl (lv_at hl 0 rfl) ?_
    refine lv_iconst (v := 0) hx hb dX1_boot_64 (by decide) ?_
    refine ztP_done C hP hS dX1_boot_65 (fun u14 H locs hu14 hP hS => ?_)
    exact zt_vret C hr hlk hP hS (by subst hu14 hu13 hu12 hu11 hu5 hu4 hu3 hu2 hu1; first | (unfold zt_boot; rw [if_neg c6]; done) | exact (if_neg c6).trans (rfl)) dX1_boot_68

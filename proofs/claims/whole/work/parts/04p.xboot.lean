def zx_boot (u : Zxs) (a1 a2 a3 a4 : Int32) : Zxs :=
  let u1 := zxs_pc u a1
  let u2 := zxs_sp u1 a2
  let u3 := zxs_lv u2 a3
  let u4 := zxs_cpp u3 a4
  if (zx_isWord a2) = 0 then (
    let u6 := zxs_top u4 0
    let u7 := zxs_state u6 0
    let u8 := zxs_cycles u7 0
    let u9 := zxs_instructions u8 0
    u9)
  else (
    let u10 := zxs_top u4 (zxg_words u4 a2.toNatClampNeg)
    let u11 := zxs_state u10 0
    let u12 := zxs_cycles u11 0
    let u13 := zxs_instructions u12 0
    u13)
set_option maxHeartbeats 4000000 in
set_option maxRecDepth 100000 in
theorem zxM_boot (l : Launch) (k : Zxk) (Dk : ZxD k) (u : Zxs) (a1 a2 a3 a4 : Int32) : Met l yX0_boot (.code yX0_boot cX0_boot 5 none :: wsX0_step) (zrm 1) (ZxB k [.ref (zxa_this k), .int a1, .int a2, .int a3, .int a4] u) (ZxQ k none (zx_boot u a1 a2 a3 a4)) 0 0 (ZxA k) := by
  refine zxE_in (by decide) rfl (Nat.le_of_ble_eq_true rfl) Dk ?_
  intro p e s m below meth c ls C hr hlk hP hl
  have hx := C.1.1
  have hb := C.1.2.1
  have hl : lv_has ls 5 [(0, .ref (zxa_this k)), (1, .int a1), (2, .int a2), (3, .int a3), (4, .int a4)] := hl
  have hS : va_S (ZxA k) s.heap s.heap [] := va_S.rf
  refine lv_aload_n hx hb dX0_boot_0 rfl (lv_at hl 0 rfl) ?_
  refine lv_iload_n hx hb dX0_boot_1 rfl (lv_at hl 1 rfl) ?_
  refine zxP_pc C hP hS dX0_boot_2 (fun u1 H locs hu1 hP hS => ?_)
  refine lv_aload_n hx hb dX0_boot_5 rfl (lv_at hl 0 rfl) ?_
  refine lv_iload_n hx hb dX0_boot_6 rfl (lv_at hl 2 rfl) ?_
  refine zxP_sp C hP hS dX0_boot_7 (fun u2 H locs hu2 hP hS => ?_)
  refine lv_aload_n hx hb dX0_boot_10 rfl (lv_at hl 0 rfl) ?_
  refine lv_iload_n hx hb dX0_boot_11 rfl (lv_at hl 3 rfl) ?_
  refine zxP_lv C hP hS dX0_boot_12 (fun u3 H locs hu3 hP hS => ?_)
  refine lv_aload_n hx hb dX0_boot_15 rfl (lv_at hl 0 rfl) ?_
  refine lv_iload hx hb dX0_boot_16 (lv_at hl 4 rfl) ?_
  refine zxP_cpp C hP hS dX0_boot_18 (fun u4 H locs hu4 hP hS => ?_)
  refine lv_aload_n hx hb dX0_boot_21 rfl (lv_at hl 0 rfl) ?_
  refine lv_iload_n hx hb dX0_boot_22 rfl (lv_at hl 2 rfl) ?_
  refine zxK_isWord C hl.1 (by decide) (Nat.le_of_ble_eq_true rfl) dX0_boot_23 ?_
  refine lv_if_eq (tgt := 38) hx hb dX0_boot_26 (by decide) (fun c5 => ?_) (fun c5 => ?_)
  · refine lv_iconst (v := 0) hx hb dX0_boot_38 (by decide) ?_
    refine zxP_top C hP hS dX0_boot_39 (fun u6 H locs hu6 hP hS => ?_)
    refine lv_aload_n hx hb dX0_boot_42 rfl (lv_at hl 0 rfl) ?_
    refine lv_iconst (v := 0) hx hb dX0_boot_43 (by decide) ?_
    refine zxP_state C hP hS dX0_boot_44 (fun u7 H locs hu7 hP hS => ?_)
    refine lv_aload_n hx hb dX0_boot_47 rfl (lv_at hl 0 rfl) ?_
    refine lv_iconst (v := 0) hx hb dX0_boot_48 (by decide) ?_
    refine zxP_cycles C hP hS dX0_boot_49 (fun u8 H locs hu8 hP hS => ?_)
    refine lv_aload_n hx hb dX0_boot_52 rfl (lv_at hl 0 rfl) ?_
    refine lv_iconst (v := 0) hx hb dX0_boot_53 (by decide) ?_
    refine zxP_instructions C hP hS dX0_boot_54 (fun u9 H locs hu9 hP hS => ?_)
    exact zx_vret C hr hlk hP hS (by subst hu9 hu8 hu7 hu6 hu4 hu3 hu2 hu1; exact (if_pos c5).trans (rfl)) dX0_boot_57
  · refine lv_aload_n hx hb dX0_boot_29 rfl (lv_at hl 0 rfl) ?_
    refine zxG_words C hP dX0_boot_30 ?_
    refine lv_iload_n hx hb dX0_boot_33 rfl (lv_at hl 2 rfl) ?_
    refine zxL_words C hP (by first | with_reducible assumption | with_reducible exact zx_in (by with_reducible assumption) | with_reducible exact zx_b10 (by with_reducible assumption) | with_reducible exact zx_b21 (by with_reducible assumption) | with_reducible exact zx_b31 (by with_reducible assumption) | with_reducible exact zx_b32 (by with_reducible assumption) | with_reducible exact zx_b42 (by with_reducible assumption) | with_reducible exact zx_b43 (by with_reducible assumption) | with_reducible exact zx_b33 (by with_reducible assumption) | with_reducible exact zx_b40 (by with_reducible assumption) | with_reducible exact zx_b41 (by with_reducible assumption)) dX0_boot_34 ?_
    refine lv_goto (tgt := 39) hx hb dX0_boot_35 (by decide) ?_
    refine zxP_top C hP hS dX0_boot_39 (fun u10 H locs hu10 hP hS => ?_)
    refine lv_aload_n hx hb dX0_boot_42 rfl (lv_at hl 0 rfl) ?_
    refine lv_iconst (v := 0) hx hb dX0_boot_43 (by decide) ?_
    refine zxP_state C hP hS dX0_boot_44 (fun u11 H locs hu11 hP hS => ?_)
    refine lv_aload_n hx hb dX0_boot_47 rfl (lv_at hl 0 rfl) ?_
    refine lv_iconst (v := 0) hx hb dX0_boot_48 (by decide) ?_
    refine zxP_cycles C hP hS dX0_boot_49 (fun u12 H locs hu12 hP hS => ?_)
    refine lv_aload_n hx hb dX0_boot_52 rfl (lv_at hl 0 rfl) ?_
    refine lv_iconst (v := 0) hx hb dX0_boot_53 (by decide) ?_
    refine zxP_instructions C hP hS dX0_boot_54 (fun u13 H locs hu13 hP hS => ?_)
    exact zx_vret C hr hlk hP hS (by subst hu13 hu12 hu11 hu10 hu4 hu3 hu2 hu1; exact (if_neg c5).trans (rfl)) dX0_boot_57

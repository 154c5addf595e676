def zx_branch (u : Zxs) (a1 a2 a3 : Int32) : Zxs :=
  if a1 = 0 then (
    let u2 := zxs_sp u a2
    let u3 := zxs_top u2 (zxg_words u2 a2.toNatClampNeg)
    if a1 = 0 then (
      let u5 := zx_finish u3 ((zxg_pc u3) + 3) a3
      u5)
    else (
      let u6 := zx_jump u3 (a3 + 3)
      u6))
  else (
    if (zx_areBytes (zxg_pc u) 3) = 0 then (
      let u13 := zx_fault u
      u13)
    else (
      let u8 := zxs_sp u a2
      let u9 := zxs_top u8 (zxg_words u8 a2.toNatClampNeg)
      if a1 = 0 then (
        let u11 := zx_finish u9 ((zxg_pc u9) + 3) a3
        u11)
      else (
        let u12 := zx_jump u9 (a3 + 3)
        u12)))
set_option maxHeartbeats 4000000 in
set_option maxRecDepth 100000 in
theorem zxM_branch (l : Launch) (k : Zxk) (Dk : ZxD k) (u : Zxs) (a1 a2 a3 : Int32) (h1 : vp_in a2 256) : Met l yX0_branch (.code yX0_branch cX0_branch 4 none :: wsX0_step) (zrm 3) (ZxB k [.ref (zxa_this k), .int a1, .int a2, .int a3] u) (ZxQ k none (zx_branch u a1 a2 a3)) 0 0 (ZxA k) := by
  refine zxE_in (by decide) rfl (Nat.le_of_ble_eq_true rfl) Dk ?_
  intro p e s m below meth c ls C hr hlk hP hl
  have hx := C.1.1
  have hb := C.1.2.1
  have hl : lv_has ls 4 [(0, .ref (zxa_this k)), (1, .int a1), (2, .int a2), (3, .int a3)] := hl
  have hS : va_S (ZxA k) s.heap s.heap [] := va_S.rf
  refine lv_iload_n hx hb dX0_branch_0 rfl (lv_at hl 1 rfl) ?_
  refine lv_if_eq (tgt := 20) hx hb dX0_branch_1 (by decide) (fun c1 => ?_) (fun c1 => ?_)
  · refine lv_aload_n hx hb dX0_branch_20 rfl (lv_at hl 0 rfl) ?_
    refine lv_iload_n hx hb dX0_branch_21 rfl (lv_at hl 2 rfl) ?_
    refine zxP_sp C hP hS dX0_branch_22 (fun u2 H locs hu2 hP hS => ?_)
    refine lv_aload_n hx hb dX0_branch_25 rfl (lv_at hl 0 rfl) ?_
    refine lv_aload_n hx hb dX0_branch_26 rfl (lv_at hl 0 rfl) ?_
    refine zxG_words C hP dX0_branch_27 ?_
    refine lv_iload_n hx hb dX0_branch_30 rfl (lv_at hl 2 rfl) ?_
    refine zxL_words C hP (by first | with_reducible assumption | with_reducible exact zx_in (by with_reducible assumption) | with_reducible exact zx_b10 (by with_reducible assumption) | with_reducible exact zx_b21 (by with_reducible assumption) | with_reducible exact zx_b31 (by with_reducible assumption) | with_reducible exact zx_b32 (by with_reducible assumption) | with_reducible exact zx_b42 (by with_reducible assumption) | with_reducible exact zx_b43 (by with_reducible assumption) | with_reducible exact zx_b33 (by with_reducible assumption) | with_reducible exact zx_b40 (by with_reducible assumption) | with_reducible exact zx_b41 (by with_reducible assumption)) dX0_branch_31 ?_
    refine zxP_top C hP hS dX0_branch_32 (fun u3 H locs hu3 hP hS => ?_)
    refine lv_iload_n hx hb dX0_branch_35 rfl (lv_at hl 1 rfl) ?_
    refine lv_if_eq (tgt := 49) hx hb dX0_branch_36 (by decide) (fun c4 => ?_) (fun c4 => ?_)
    · refine lv_aload_n hx hb dX0_branch_49 rfl (lv_at hl 0 rfl) ?_
      refine lv_aload_n hx hb dX0_branch_50 rfl (lv_at hl 0 rfl) ?_
      refine zxG_pc C hP dX0_branch_51 ?_
      refine lv_iconst (v := 3) hx hb dX0_branch_54 (by decide) ?_
      refine lv_iadd hx hb dX0_branch_55 ?_
      refine lv_iload_n hx hb dX0_branch_56 rfl (lv_at hl 3 rfl) ?_
      refine zxK_finish C hP hS hl.1 (by decide) (Nat.le_of_ble_eq_true rfl) dX0_branch_57 (fun u5 H locs hu5 hP hS => ?_)
      exact zx_vret C hr hlk hP hS (by subst hu5 hu3 hu2; exact (if_pos c1).trans ((if_pos c4).trans (rfl))) dX0_branch_60
    · refine lv_aload_n hx hb dX0_branch_39 rfl (lv_at hl 0 rfl) ?_
      refine lv_iload_n hx hb dX0_branch_40 rfl (lv_at hl 3 rfl) ?_
      refine lv_iconst (v := 3) hx hb dX0_branch_41 (by decide) ?_
      refine lv_iadd hx hb dX0_branch_42 ?_
      refine zxK_jump C hP hS hl.1 (by decide) (Nat.le_of_ble_eq_true rfl) dX0_branch_43 (fun u6 H locs hu6 hP hS => ?_)
      refine lv_goto (tgt := 60) hx hb dX0_branch_46 (by decide) ?_
      exact zx_vret C hr hlk hP hS (by subst hu6 hu3 hu2; exact (if_pos c1).trans ((if_neg c4).trans (rfl))) dX0_branch_60
  · refine lv_aload_n hx hb dX0_branch_4 rfl (lv_at hl 0 rfl) ?_
    refine zxG_pc C hP dX0_branch_5 ?_
    refine lv_iconst (v := 3) hx hb dX0_branch_8 (by decide) ?_
    refine zxK_areBytes C hl.1 (by decide) (Nat.le_of_ble_eq_true rfl) dX0_branch_9 ?_
    refine lv_if_ne (tgt := 20) hx hb dX0_branch_12 (by decide) (fun c7 => ?_) (fun c7 => ?_)
    · refine lv_aload_n hx hb dX0_branch_20 rfl (lv_at hl 0 rfl) ?_
      refine lv_iload_n hx hb dX0_branch_21 rfl (lv_at hl 2 rfl) ?_
      refine zxP_sp C hP hS dX0_branch_22 (fun u8 H locs hu8 hP hS => ?_)
      refine lv_aload_n hx hb dX0_branch_25 rfl (lv_at hl 0 rfl) ?_
      refine lv_aload_n hx hb dX0_branch_26 rfl (lv_at hl 0 rfl) ?_
      refine zxG_words C hP dX0_branch_27 ?_
      refine lv_iload_n hx hb dX0_branch_30 rfl (lv_at hl 2 rfl) ?_
      refine zxL_words C hP (by first | with_reducible assumption | with_reducible exact zx_in (by with_reducible assumption) | with_reducible exact zx_b10 (by with_reducible assumption) | with_reducible exact zx_b21 (by with_reducible assumption) | with_reducible exact zx_b31 (by with_reducible assumption) | with_reducible exact zx_b32 (by with_reducible assumption) | with_reducible exact zx_b42 (by with_reducible assumption) | with_reducible exact zx_b43 (by with_reducible assumption) | with_reducible exact zx_b33 (by with_reducible assumption) | with_reducible exact zx_b40 (by with_reducible assumption) | with_reducible exact zx_b41 (by with_reducible assumption)) dX0_branch_31 ?_
      refine zxP_top C hP hS dX0_branch_32 (fun u9 H locs hu9 hP hS => ?_)
      refine lv_iload_n hx hb dX0_branch_35 rfl (lv_at hl 1 rfl) ?_
      refine lv_if_eq (tgt := 49) hx hb dX0_branch_36 (by decide) (fun c10 => ?_) (fun c10 => ?_)
      · refine lv_aload_n hx hb dX0_branch_49 rfl (lv_at hl 0 rfl) ?_
        refine lv_aload_n hx hb dX0_branch_50 rfl (lv_at hl 0 rfl) ?_
        refine zxG_pc C hP dX0_branch_51 ?_
        refine lv_iconst (v := 3) hx hb dX0_branch_54 (by decide) ?_
        refine lv_iadd hx hb dX0_branch_55 ?_
        refine lv_iload_n hx hb dX0_branch_56 rfl (lv_at hl 3 rfl) ?_
        refine zxK_finish C hP hS hl.1 (by decide) (Nat.le_of_ble_eq_true rfl) dX0_branch_57 (fun u11 H locs hu11 hP hS => ?_)
        exact zx_vret C hr hlk hP hS (by subst hu11 hu9 hu8; exact (if_neg c1).trans ((if_neg c7).trans ((if_pos c10).trans (rfl)))) dX0_branch_60
      · refine lv_aload_n hx hb dX0_branch_39 rfl (lv_at hl 0 rfl) ?_
        refine lv_iload_n hx hb dX0_branch_40 rfl (lv_at hl 3 rfl) ?_
        refine lv_iconst (v := 3) hx hb dX0_branch_41 (by decide) ?_
        refine lv_iadd hx hb dX0_branch_42 ?_
        refine zxK_jump C hP hS hl.1 (by decide) (Nat.le_of_ble_eq_true rfl) dX0_branch_43 (fun u12 H locs hu12 hP hS => ?_)
        refine lv_goto (tgt := 60) hx hb dX0_branch_46 (by decide) ?_
        exact zx_vret C hr hlk hP hS (by subst hu12 hu9 hu8; exact (if_neg c1).trans ((if_neg c7).trans ((if_neg c10).trans (rfl)))) dX0_branch_60
    · refine lv_aload_n hx hb dX0_branch_15 rfl (lv_at hl 0 rfl) ?_
      refine zxK_fault C hP hS hl.1 (by decide) (Nat.le_of_ble_eq_true rfl) dX0_branch_16 (fun u13 H locs hu13 hP hS => ?_)
      exact zx_vret C hr hlk hP hS (by subst hu13; exact (if_neg c1).trans ((if_pos c7).trans (rfl))) dX0_branch_19
section
variable {p : Program} {l : Launch} {e : Env} {R : Room} {s : State} {m : MethodId} {args : Array Value} {below : List Frame} {meth : Method} {c : Code} {H : Heap} {locs : List Loc} {Q : State → Prop} {cc : ByteArray} {pc nL : Nat} {ls : Array Slot} {rest : List Value} {k : Zxk} {u : Zxs} {H0 : Heap}
set_option maxHeartbeats 4000000 in
set_option maxRecDepth 100000 in
theorem zxK_branch {a1 a2 a3 : Int32} (C : ZxC p s m args c cc nL k) (hP : ZxP k u H) (hS : va_S (ZxA k) H0 H locs) (hsz : ls.size = nL) (hR : 3 + 1 ≤ R.frames ∧ 8 + (4 + 11) + 40 * 3 ≤ R.locals) (hw : (rest.map fun v => v.category).sum ≤ 8) (h1 : vp_in a2 256) (hdg : decode cc pc = .ok (.invokevirtual 155, 3)) (kk : ∀ (u1 : Zxs) (H1 : Heap) (locs1 : List Loc), u1 = zx_branch u a1 a2 a3 → ZxP k u1 H1 → va_S (ZxA k) H0 H1 locs1 → W p l e R s m args below meth c H1 locs1 0 0 Q (F0 m (pc + 3) ls (rest))) : W p l e R s m args below meth c H locs 0 0 Q (F0 m pc ls (.int a3 :: .int a2 :: .int a1 :: .ref (zxa_this k) :: rest)) :=
  zx_callV (y := yX0_branch) (n := 3) (As := [.int a1, .int a2, .int a3]) C (zxM_branch l k C.2.2 u a1 a2 a3 h1) wsX0_step_c_branch wsX0_step_l_branch wsX0_step_i_branch wsX0_step_v_branch rfl (by decide +kernel) hP hS hsz hR hw rfl hdg (fun H1 locs1 hP1 hS1 => kk _ H1 locs1 rfl hP1 hS1)
end

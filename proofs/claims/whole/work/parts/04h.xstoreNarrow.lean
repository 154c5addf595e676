def zx_storeNarrow (u : Zxs) : Zxs :=
  if (zx_areBytes (zxg_pc u) 2) = 0 then (
    let u3 := zx_fault u
    u3)
  else (
    let u2 := zx_store u ((zxg_lv u) + (zx_unsignedByte u ((zxg_pc u) + 1))) 2 7
    u2)
set_option maxHeartbeats 4000000 in
set_option maxRecDepth 100000 in
theorem zxM_storeNarrow (l : Launch) (k : Zxk) (Dk : ZxD k) (u : Zxs) : Met l yX0_storeNarrow (.code yX0_storeNarrow cX0_storeNarrow 1 none :: wsX0_step) (zrm 2) (ZxB k [.ref (zxa_this k)] u) (ZxQ k none (zx_storeNarrow u )) 0 0 (ZxA k) := by
  refine zxE_in (by decide) rfl (Nat.le_of_ble_eq_true rfl) Dk ?_
  intro p e s m below meth c ls C hr hlk hP hl
  have hx := C.1.1
  have hb := C.1.2.1
  have hl : lv_has ls 1 [(0, .ref (zxa_this k))] := hl
  have hS : va_S (ZxA k) s.heap s.heap [] := va_S.rf
  refine lv_aload_n hx hb dX0_storeNarrow_0 rfl (lv_at hl 0 rfl) ?_
  refine zxG_pc C hP dX0_storeNarrow_1 ?_
  refine lv_iconst (v := 2) hx hb dX0_storeNarrow_4 (by decide) ?_
  refine zxK_areBytes C hl.1 (by decide) (Nat.le_of_ble_eq_true rfl) dX0_storeNarrow_5 ?_
  refine lv_if_ne (tgt := 16) hx hb dX0_storeNarrow_8 (by decide) (fun c1 => ?_) (fun c1 => ?_)
  · refine lv_aload_n hx hb dX0_storeNarrow_16 rfl (lv_at hl 0 rfl) ?_
    refine lv_aload_n hx hb dX0_storeNarrow_17 rfl (lv_at hl 0 rfl) ?_
    refine zxG_lv C hP dX0_storeNarrow_18 ?_
    refine lv_aload_n hx hb dX0_storeNarrow_21 rfl (lv_at hl 0 rfl) ?_
    refine lv_aload_n hx hb dX0_storeNarrow_22 rfl (lv_at hl 0 rfl) ?_
    refine zxG_pc C hP dX0_storeNarrow_23 ?_
    refine lv_iconst (v := 1) hx hb dX0_storeNarrow_26 (by decide) ?_
    refine lv_iadd hx hb dX0_storeNarrow_27 ?_
    refine zxK_unsignedByte C hP hl.1 (by decide) (Nat.le_of_ble_eq_true rfl) (by first | with_reducible assumption | with_reducible exact zx_in (by with_reducible assumption) | with_reducible exact zx_b10 (by with_reducible assumption) | with_reducible exact zx_b21 (by with_reducible assumption) | with_reducible exact zx_b31 (by with_reducible assumption) | with_reducible exact zx_b32 (by with_reducible assumption) | with_reducible exact zx_b42 (by with_reducible assumption) | with_reducible exact zx_b43 (by with_reducible assumption) | with_reducible exact zx_b33 (by with_reducible assumption) | with_reducible exact zx_b40 (by with_reducible assumption) | with_reducible exact zx_b41 (by with_reducible assumption)) dX0_storeNarrow_28 ?_
    refine lv_iadd hx hb dX0_storeNarrow_31 ?_
    refine lv_iconst (v := 2) hx hb dX0_storeNarrow_32 (by decide) ?_
    refine lv_bipush (v := 7) hx hb dX0_storeNarrow_33 (by decide) ?_
    refine zxK_store C hP hS hl.1 (by decide) (Nat.le_of_ble_eq_true rfl) dX0_storeNarrow_35 (fun u2 H locs hu2 hP hS => ?_)
    exact zx_vret C hr hlk hP hS (by subst hu2; exact (if_neg c1).trans (rfl)) dX0_storeNarrow_38
  · refine lv_aload_n hx hb dX0_storeNarrow_11 rfl (lv_at hl 0 rfl) ?_
    refine zxK_fault C hP hS hl.1 (by decide) (Nat.le_of_ble_eq_true rfl) dX0_storeNarrow_12 (fun u3 H locs hu3 hP hS => ?_)
    exact zx_vret C hr hlk hP hS (by subst hu3; exact (if_pos c1).trans (rfl)) dX0_storeNarrow_15
section
variable {p : Program} {l : Launch} {e : Env} {R : Room} {s : State} {m : MethodId} {args : Array Value} {below : List Frame} {meth : Method} {c : Code} {H : Heap} {locs : List Loc} {Q : State → Prop} {cc : ByteArray} {pc nL : Nat} {ls : Array Slot} {rest : List Value} {k : Zxk} {u : Zxs} {H0 : Heap}
set_option maxHeartbeats 4000000 in
set_option maxRecDepth 100000 in
theorem zxK_storeNarrow (C : ZxC p s m args c cc nL k) (hP : ZxP k u H) (hS : va_S (ZxA k) H0 H locs) (hsz : ls.size = nL) (hR : 2 + 1 ≤ R.frames ∧ 8 + (1 + 11) + 40 * 2 ≤ R.locals) (hw : (rest.map fun v => v.category).sum ≤ 8) (hdg : decode cc pc = .ok (.invokevirtual 105, 3)) (kk : ∀ (u1 : Zxs) (H1 : Heap) (locs1 : List Loc), u1 = zx_storeNarrow u  → ZxP k u1 H1 → va_S (ZxA k) H0 H1 locs1 → W p l e R s m args below meth c H1 locs1 0 0 Q (F0 m (pc + 3) ls (rest))) : W p l e R s m args below meth c H locs 0 0 Q (F0 m pc ls (.ref (zxa_this k) :: rest)) :=
  zx_callV (y := yX0_storeNarrow) (n := 0) (As := []) C (zxM_storeNarrow l k C.2.2 u  ) wsX0_step_c_storeNarrow wsX0_step_l_storeNarrow wsX0_step_i_storeNarrow wsX0_step_v_storeNarrow rfl (by decide +kernel) hP hS hsz hR hw rfl hdg (fun H1 locs1 hP1 hS1 => kk _ H1 locs1 rfl hP1 hS1)
end

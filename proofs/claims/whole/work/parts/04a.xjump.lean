def zx_jump (u : Zxs) (a1 : Int32) : Zxs :=
  if (zx_areBytes (zxg_pc u) 3) = 0 then (
    let u3 := zx_fault u
    u3)
  else (
    let u2 := zx_finish u ((zxg_pc u) + (zx_signedPair u ((zxg_pc u) + 1))) a1
    u2)
set_option maxHeartbeats 4000000 in
set_option maxRecDepth 100000 in
theorem zxM_jump (l : Launch) (k : Zxk) (Dk : ZxD k) (u : Zxs) (a1 : Int32) : Met l yX0_jump (.code yX0_jump cX0_jump 2 none :: wsX0_step) (zrm 2) (ZxB k [.ref (zxa_this k), .int a1] u) (ZxQ k none (zx_jump u a1)) 0 0 (ZxA k) := by
  refine zxE_in (by decide) rfl (Nat.le_of_ble_eq_true rfl) Dk ?_
  intro p e s m below meth c ls C hr hlk hP hl
  have hx := C.1.1
  have hb := C.1.2.1
  have hl : lv_has ls 2 [(0, .ref (zxa_this k)), (1, .int a1)] := hl
  have hS : va_S (ZxA k) s.heap s.heap [] := va_S.rf
  refine lv_aload_n hx hb dX0_jump_0 rfl (lv_at hl 0 rfl) ?_
  refine zxG_pc C hP dX0_jump_1 ?_
  refine lv_iconst (v := 3) hx hb dX0_jump_4 (by decide) ?_
  refine zxK_areBytes C hl.1 (by decide) (Nat.le_of_ble_eq_true rfl) dX0_jump_5 ?_
  refine lv_if_ne (tgt := 16) hx hb dX0_jump_8 (by decide) (fun c1 => ?_) (fun c1 => ?_)
  · refine lv_aload_n hx hb dX0_jump_16 rfl (lv_at hl 0 rfl) ?_
    refine lv_aload_n hx hb dX0_jump_17 rfl (lv_at hl 0 rfl) ?_
    refine zxG_pc C hP dX0_jump_18 ?_
    refine lv_aload_n hx hb dX0_jump_21 rfl (lv_at hl 0 rfl) ?_
    refine lv_aload_n hx hb dX0_jump_22 rfl (lv_at hl 0 rfl) ?_
    refine zxG_pc C hP dX0_jump_23 ?_
    refine lv_iconst (v := 1) hx hb dX0_jump_26 (by decide) ?_
    refine lv_iadd hx hb dX0_jump_27 ?_
    refine zxK_signedPair C hP hl.1 (by decide) (Nat.le_of_ble_eq_true rfl) (by first | with_reducible assumption | with_reducible exact zx_in (by with_reducible assumption) | with_reducible exact zx_b10 (by with_reducible assumption) | with_reducible exact zx_b21 (by with_reducible assumption) | with_reducible exact zx_b31 (by with_reducible assumption) | with_reducible exact zx_b32 (by with_reducible assumption) | with_reducible exact zx_b42 (by with_reducible assumption) | with_reducible exact zx_b43 (by with_reducible assumption) | with_reducible exact zx_b33 (by with_reducible assumption) | with_reducible exact zx_b40 (by with_reducible assumption) | with_reducible exact zx_b41 (by with_reducible assumption)) (by first | with_reducible assumption | with_reducible exact zx_in (by with_reducible assumption) | with_reducible exact zx_b10 (by with_reducible assumption) | with_reducible exact zx_b21 (by with_reducible assumption) | with_reducible exact zx_b31 (by with_reducible assumption) | with_reducible exact zx_b32 (by with_reducible assumption) | with_reducible exact zx_b42 (by with_reducible assumption) | with_reducible exact zx_b43 (by with_reducible assumption) | with_reducible exact zx_b33 (by with_reducible assumption) | with_reducible exact zx_b40 (by with_reducible assumption) | with_reducible exact zx_b41 (by with_reducible assumption)) dX0_jump_28 ?_
    refine lv_iadd hx hb dX0_jump_31 ?_
    refine lv_iload_n hx hb dX0_jump_32 rfl (lv_at hl 1 rfl) ?_
    refine zxK_finish C hP hS hl.1 (by decide) (Nat.le_of_ble_eq_true rfl) dX0_jump_33 (fun u2 H locs hu2 hP hS => ?_)
    exact zx_vret C hr hlk hP hS (by subst hu2; exact (if_neg c1).trans (rfl)) dX0_jump_36
  · refine lv_aload_n hx hb dX0_jump_11 rfl (lv_at hl 0 rfl) ?_
    refine zxK_fault C hP hS hl.1 (by decide) (Nat.le_of_ble_eq_true rfl) dX0_jump_12 (fun u3 H locs hu3 hP hS => ?_)
    exact zx_vret C hr hlk hP hS (by subst hu3; exact (if_pos c1).trans (rfl)) dX0_jump_15
section
variable {p : Program} {l : Launch} {e : Env} {R : Room} {s : State} {m : MethodId} {args : Array Value} {below : List Frame} {meth : Method} {c : Code} {H : Heap} {locs : List Loc} {Q : State → Prop} {cc : ByteArray} {pc nL : Nat} {ls : Array Slot} {rest : List Value} {k : Zxk} {u : Zxs} {H0 : Heap}
set_option maxHeartbeats 4000000 in
set_option maxRecDepth 100000 in
theorem zxK_jump {a1 : Int32} (C : ZxC p s m args c cc nL k) (hP : ZxP k u H) (hS : va_S (ZxA k) H0 H locs) (hsz : ls.size = nL) (hR : 2 + 1 ≤ R.frames ∧ 8 + (2 + 11) + 40 * 2 ≤ R.locals) (hw : (rest.map fun v => v.category).sum ≤ 8) (hdg : decode cc pc = .ok (.invokevirtual 117, 3)) (kk : ∀ (u1 : Zxs) (H1 : Heap) (locs1 : List Loc), u1 = zx_jump u a1 → ZxP k u1 H1 → va_S (ZxA k) H0 H1 locs1 → W p l e R s m args below meth c H1 locs1 0 0 Q (F0 m (pc + 3) ls (rest))) : W p l e R s m args below meth c H locs 0 0 Q (F0 m pc ls (.int a1 :: .ref (zxa_this k) :: rest)) :=
  zx_callV (y := yX0_jump) (n := 1) (As := [.int a1]) C (zxM_jump l k C.2.2 u a1 ) wsX0_step_c_jump wsX0_step_l_jump wsX0_step_i_jump wsX0_step_v_jump rfl (by decide +kernel) hP hS hsz hR hw rfl hdg (fun H1 locs1 hP1 hS1 => kk _ H1 locs1 rfl hP1 hS1)
end

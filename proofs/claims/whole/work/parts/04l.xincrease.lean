def zx_increase (u : Zxs) : Zxs :=
  if (zx_areBytes (zxg_pc u) 3) = 0 then (
    let u6 := zx_fault u
    u6)
  else (
    if (zx_isWord ((zxg_lv u) + (zx_unsignedByte u ((zxg_pc u) + 1)))) = 0 then (
      let u5 := zx_fault u
      u5)
    else (
      let u3 := zxs_words u (upd (zxg_words u) ((zxg_lv u) + (zx_unsignedByte u ((zxg_pc u) + 1))).toNatClampNeg ((zxg_words u ((zxg_lv u) + (zx_unsignedByte u ((zxg_pc u) + 1))).toNatClampNeg) + (zxg_bytes u ((zxg_pc u) + 2).toNatClampNeg)))
      let u4 := zx_finish u3 ((zxg_pc u3) + 3) 7
      u4))
set_option maxHeartbeats 4000000 in
set_option maxRecDepth 100000 in
theorem zxM_increase (l : Launch) (k : Zxk) (Dk : ZxD k) (u : Zxs) : Met l yX0_increase (.code yX0_increase cX0_increase 2 none :: wsX0_step) (zrm 1) (ZxB k [.ref (zxa_this k)] u) (ZxQ k none (zx_increase u )) 0 0 (ZxA k) := by
  refine zxE_in (by decide) rfl (Nat.le_of_ble_eq_true rfl) Dk ?_
  intro p e s m below meth c ls C hr hlk hP hl
  have hx := C.1.1
  have hb := C.1.2.1
  have hl : lv_has ls 2 [(0, .ref (zxa_this k))] := hl
  have hS : va_S (ZxA k) s.heap s.heap [] := va_S.rf
  refine lv_aload_n hx hb dX0_increase_0 rfl (lv_at hl 0 rfl) ?_
  refine zxG_pc C hP dX0_increase_1 ?_
  refine lv_iconst (v := 3) hx hb dX0_increase_4 (by decide) ?_
  refine zxK_areBytes C hl.1 (by decide) (Nat.le_of_ble_eq_true rfl) dX0_increase_5 ?_
  refine lv_if_ne (tgt := 16) hx hb dX0_increase_8 (by decide) (fun c1 => ?_) (fun c1 => ?_)
  · refine lv_aload_n hx hb dX0_increase_16 rfl (lv_at hl 0 rfl) ?_
    refine zxG_lv C hP dX0_increase_17 ?_
    refine lv_aload_n hx hb dX0_increase_20 rfl (lv_at hl 0 rfl) ?_
    refine lv_aload_n hx hb dX0_increase_21 rfl (lv_at hl 0 rfl) ?_
    refine zxG_pc C hP dX0_increase_22 ?_
    refine lv_iconst (v := 1) hx hb dX0_increase_25 (by decide) ?_
    refine lv_iadd hx hb dX0_increase_26 ?_
    refine zxK_unsignedByte C hP hl.1 (by decide) (Nat.le_of_ble_eq_true rfl) (by first | with_reducible assumption | with_reducible exact zx_in (by with_reducible assumption) | with_reducible exact zx_b10 (by with_reducible assumption) | with_reducible exact zx_b21 (by with_reducible assumption) | with_reducible exact zx_b31 (by with_reducible assumption) | with_reducible exact zx_b32 (by with_reducible assumption) | with_reducible exact zx_b42 (by with_reducible assumption) | with_reducible exact zx_b43 (by with_reducible assumption) | with_reducible exact zx_b33 (by with_reducible assumption) | with_reducible exact zx_b40 (by with_reducible assumption) | with_reducible exact zx_b41 (by with_reducible assumption)) dX0_increase_27 ?_
    refine lv_iadd hx hb dX0_increase_30 ?_
    refine lv_istore_n (lv' := [(1, .int ((zxg_lv u) + (zx_unsignedByte u ((zxg_pc u) + 1)))), (0, .ref (zxa_this k))]) hx hb dX0_increase_31 rfl hl (by decide) rfl (fun ls hl => ?_)
    refine lv_iload_n hx hb dX0_increase_32 rfl (lv_at hl 0 rfl) ?_
    refine zxK_isWord C hl.1 (by decide) (Nat.le_of_ble_eq_true rfl) dX0_increase_33 ?_
    refine lv_if_ne (tgt := 44) hx hb dX0_increase_36 (by decide) (fun c2 => ?_) (fun c2 => ?_)
    · refine lv_aload_n hx hb dX0_increase_44 rfl (lv_at hl 1 rfl) ?_
      refine zxG_words C hP dX0_increase_45 ?_
      refine lv_iload_n hx hb dX0_increase_48 rfl (lv_at hl 0 rfl) ?_
      refine lv_dup2_11 hx hb dX0_increase_49 rfl rfl ?_
      refine zxL_words C hP (by first | with_reducible assumption | with_reducible exact zx_in (by with_reducible assumption) | with_reducible exact zx_b10 (by with_reducible assumption) | with_reducible exact zx_b21 (by with_reducible assumption) | with_reducible exact zx_b31 (by with_reducible assumption) | with_reducible exact zx_b32 (by with_reducible assumption) | with_reducible exact zx_b42 (by with_reducible assumption) | with_reducible exact zx_b43 (by with_reducible assumption) | with_reducible exact zx_b33 (by with_reducible assumption) | with_reducible exact zx_b40 (by with_reducible assumption) | with_reducible exact zx_b41 (by with_reducible assumption)) dX0_increase_50 ?_
      refine lv_aload_n hx hb dX0_increase_51 rfl (lv_at hl 1 rfl) ?_
      refine zxG_bytes C hP dX0_increase_52 ?_
      refine lv_aload_n hx hb dX0_increase_55 rfl (lv_at hl 1 rfl) ?_
      refine zxG_pc C hP dX0_increase_56 ?_
      refine lv_iconst (v := 2) hx hb dX0_increase_59 (by decide) ?_
      refine lv_iadd hx hb dX0_increase_60 ?_
      refine zxL_bytes C hP (by first | with_reducible assumption | with_reducible exact zx_in (by with_reducible assumption) | with_reducible exact zx_b10 (by with_reducible assumption) | with_reducible exact zx_b21 (by with_reducible assumption) | with_reducible exact zx_b31 (by with_reducible assumption) | with_reducible exact zx_b32 (by with_reducible assumption) | with_reducible exact zx_b42 (by with_reducible assumption) | with_reducible exact zx_b43 (by with_reducible assumption) | with_reducible exact zx_b33 (by with_reducible assumption) | with_reducible exact zx_b40 (by with_reducible assumption) | with_reducible exact zx_b41 (by with_reducible assumption)) dX0_increase_61 ?_
      refine lv_iadd hx hb dX0_increase_62 ?_
      refine zxS_words C hP hS (by first | with_reducible assumption | with_reducible exact zx_in (by with_reducible assumption) | with_reducible exact zx_b10 (by with_reducible assumption) | with_reducible exact zx_b21 (by with_reducible assumption) | with_reducible exact zx_b31 (by with_reducible assumption) | with_reducible exact zx_b32 (by with_reducible assumption) | with_reducible exact zx_b42 (by with_reducible assumption) | with_reducible exact zx_b43 (by with_reducible assumption) | with_reducible exact zx_b33 (by with_reducible assumption) | with_reducible exact zx_b40 (by with_reducible assumption) | with_reducible exact zx_b41 (by with_reducible assumption)) dX0_increase_63 (fun u3 H locs hu3 hP hS => ?_)
      refine lv_aload_n hx hb dX0_increase_64 rfl (lv_at hl 1 rfl) ?_
      refine lv_aload_n hx hb dX0_increase_65 rfl (lv_at hl 1 rfl) ?_
      refine zxG_pc C hP dX0_increase_66 ?_
      refine lv_iconst (v := 3) hx hb dX0_increase_69 (by decide) ?_
      refine lv_iadd hx hb dX0_increase_70 ?_
      refine lv_bipush (v := 7) hx hb dX0_increase_71 (by decide) ?_
      refine zxK_finish C hP hS hl.1 (by decide) (Nat.le_of_ble_eq_true rfl) dX0_increase_73 (fun u4 H locs hu4 hP hS => ?_)
      exact zx_vret C hr hlk hP hS (by subst hu4 hu3; exact (if_neg c1).trans ((if_neg c2).trans (rfl))) dX0_increase_76
    · refine lv_aload_n hx hb dX0_increase_39 rfl (lv_at hl 1 rfl) ?_
      refine zxK_fault C hP hS hl.1 (by decide) (Nat.le_of_ble_eq_true rfl) dX0_increase_40 (fun u5 H locs hu5 hP hS => ?_)
      exact zx_vret C hr hlk hP hS (by subst hu5; exact (if_neg c1).trans ((if_pos c2).trans (rfl))) dX0_increase_43
  · refine lv_aload_n hx hb dX0_increase_11 rfl (lv_at hl 0 rfl) ?_
    refine zxK_fault C hP hS hl.1 (by decide) (Nat.le_of_ble_eq_true rfl) dX0_increase_12 (fun u6 H locs hu6 hP hS => ?_)
    exact zx_vret C hr hlk hP hS (by subst hu6; exact (if_pos c1).trans (rfl)) dX0_increase_15
section
variable {p : Program} {l : Launch} {e : Env} {R : Room} {s : State} {m : MethodId} {args : Array Value} {below : List Frame} {meth : Method} {c : Code} {H : Heap} {locs : List Loc} {Q : State → Prop} {cc : ByteArray} {pc nL : Nat} {ls : Array Slot} {rest : List Value} {k : Zxk} {u : Zxs} {H0 : Heap}
set_option maxHeartbeats 4000000 in
set_option maxRecDepth 100000 in
theorem zxK_increase (C : ZxC p s m args c cc nL k) (hP : ZxP k u H) (hS : va_S (ZxA k) H0 H locs) (hsz : ls.size = nL) (hR : 1 + 1 ≤ R.frames ∧ 8 + (2 + 11) + 40 * 1 ≤ R.locals) (hw : (rest.map fun v => v.category).sum ≤ 8) (hdg : decode cc pc = .ok (.invokevirtual 114, 3)) (kk : ∀ (u1 : Zxs) (H1 : Heap) (locs1 : List Loc), u1 = zx_increase u  → ZxP k u1 H1 → va_S (ZxA k) H0 H1 locs1 → W p l e R s m args below meth c H1 locs1 0 0 Q (F0 m (pc + 3) ls (rest))) : W p l e R s m args below meth c H locs 0 0 Q (F0 m pc ls (.ref (zxa_this k) :: rest)) :=
  zx_callV (y := yX0_increase) (n := 0) (As := []) C (zxM_increase l k C.2.2 u  ) wsX0_step_c_increase wsX0_step_l_increase wsX0_step_i_increase wsX0_step_v_increase rfl (by decide +kernel) hP hS hsz hR hw rfl hdg (fun H1 locs1 hP1 hS1 => kk _ H1 locs1 rfl hP1 hS1)
end

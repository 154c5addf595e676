def zx_jumpOnLike (u : Zxs) : Zxs :=
  if (zx_isWord ((zxg_sp u) - 1)) = 0 then (
    let u2 := zx_fault u
    u2)
  else (
    if (zx_isWord ((zxg_sp u) - 2)) = 0 then (
      let u7 := zx_fault u
      u7)
    else (
      if (zxg_top u) = (zxg_words u ((zxg_sp u) - 1).toNatClampNeg) then (
        let u6 := zx_branch u 1 ((zxg_sp u) - 2) 10
        u6)
      else (
        let u5 := zx_branch u 0 ((zxg_sp u) - 2) 10
        u5)))
set_option maxHeartbeats 4000000 in
set_option maxRecDepth 100000 in
theorem zxM_jumpOnLike (l : Launch) (k : Zxk) (Dk : ZxD k) (u : Zxs) : Met l yX0_jumpOnLike (.code yX0_jumpOnLike cX0_jumpOnLike 3 none :: wsX0_step) (zrm 4) (ZxB k [.ref (zxa_this k)] u) (ZxQ k none (zx_jumpOnLike u )) 0 0 (ZxA k) := by
  refine zxE_in (by decide) rfl (Nat.le_of_ble_eq_true rfl) Dk ?_
  intro p e s m below meth c ls C hr hlk hP hl
  have hx := C.1.1
  have hb := C.1.2.1
  have hl : lv_has ls 3 [(0, .ref (zxa_this k))] := hl
  have hS : va_S (ZxA k) s.heap s.heap [] := va_S.rf
  refine lv_aload_n hx hb dX0_jumpOnLike_0 rfl (lv_at hl 0 rfl) ?_
  refine zxG_sp C hP dX0_jumpOnLike_1 ?_
  refine lv_iconst (v := 1) hx hb dX0_jumpOnLike_4 (by decide) ?_
  refine lv_isub hx hb dX0_jumpOnLike_5 ?_
  refine lv_istore_n (lv' := [(1, .int ((zxg_sp u) - 1)), (0, .ref (zxa_this k))]) hx hb dX0_jumpOnLike_6 rfl hl (by decide) rfl (fun ls hl => ?_)
  refine lv_aload_n hx hb dX0_jumpOnLike_7 rfl (lv_at hl 1 rfl) ?_
  refine zxG_sp C hP dX0_jumpOnLike_8 ?_
  refine lv_iconst (v := 2) hx hb dX0_jumpOnLike_11 (by decide) ?_
  refine lv_isub hx hb dX0_jumpOnLike_12 ?_
  refine lv_istore_n (lv' := [(2, .int ((zxg_sp u) - 2)), (1, .int ((zxg_sp u) - 1)), (0, .ref (zxa_this k))]) hx hb dX0_jumpOnLike_13 rfl hl (by decide) rfl (fun ls hl => ?_)
  refine lv_iload_n hx hb dX0_jumpOnLike_14 rfl (lv_at hl 1 rfl) ?_
  refine zxK_isWord C hl.1 (by decide) (Nat.le_of_ble_eq_true rfl) dX0_jumpOnLike_15 ?_
  refine lv_if_eq (tgt := 28) hx hb dX0_jumpOnLike_18 (by decide) (fun c1 => ?_) (fun c1 => ?_)
  · refine lv_aload_n hx hb dX0_jumpOnLike_28 rfl (lv_at hl 2 rfl) ?_
    refine zxK_fault C hP hS hl.1 (by decide) (Nat.le_of_ble_eq_true rfl) dX0_jumpOnLike_29 (fun u2 H locs hu2 hP hS => ?_)
    exact zx_vret C hr hlk hP hS (by subst hu2; exact (if_pos c1).trans (rfl)) dX0_jumpOnLike_32
  · refine lv_iload_n hx hb dX0_jumpOnLike_21 rfl (lv_at hl 0 rfl) ?_
    refine zxK_isWord C hl.1 (by decide) (Nat.le_of_ble_eq_true rfl) dX0_jumpOnLike_22 ?_
    refine lv_if_ne (tgt := 33) hx hb dX0_jumpOnLike_25 (by decide) (fun c3 => ?_) (fun c3 => ?_)
    · refine lv_aload_n hx hb dX0_jumpOnLike_33 rfl (lv_at hl 2 rfl) ?_
      refine lv_aload_n hx hb dX0_jumpOnLike_34 rfl (lv_at hl 2 rfl) ?_
      refine zxG_top C hP dX0_jumpOnLike_35 ?_
      refine lv_aload_n hx hb dX0_jumpOnLike_38 rfl (lv_at hl 2 rfl) ?_
      refine zxG_words C hP dX0_jumpOnLike_39 ?_
      refine lv_iload_n hx hb dX0_jumpOnLike_42 rfl (lv_at hl 1 rfl) ?_
      refine zxL_words C hP (by first | with_reducible assumption | with_reducible exact zx_in (by with_reducible assumption) | with_reducible exact zx_b10 (by with_reducible assumption) | with_reducible exact zx_b21 (by with_reducible assumption) | with_reducible exact zx_b31 (by with_reducible assumption) | with_reducible exact zx_b32 (by with_reducible assumption) | with_reducible exact zx_b42 (by with_reducible assumption) | with_reducible exact zx_b43 (by with_reducible assumption) | with_reducible exact zx_b33 (by with_reducible assumption) | with_reducible exact zx_b40 (by with_reducible assumption) | with_reducible exact zx_b41 (by with_reducible assumption)) dX0_jumpOnLike_43 ?_
      refine lv_icmp_ne (tgt := 51) hx hb dX0_jumpOnLike_44 (by decide) (fun c4 => ?_) (fun c4 => ?_)
      · refine lv_iconst (v := 0) hx hb dX0_jumpOnLike_51 (by decide) ?_
        refine lv_iload_n hx hb dX0_jumpOnLike_52 rfl (lv_at hl 0 rfl) ?_
        refine lv_bipush (v := 10) hx hb dX0_jumpOnLike_53 (by decide) ?_
        refine zxK_branch C hP hS hl.1 (by decide) (Nat.le_of_ble_eq_true rfl) (by first | with_reducible assumption | with_reducible exact zx_in (by with_reducible assumption) | with_reducible exact zx_b10 (by with_reducible assumption) | with_reducible exact zx_b21 (by with_reducible assumption) | with_reducible exact zx_b31 (by with_reducible assumption) | with_reducible exact zx_b32 (by with_reducible assumption) | with_reducible exact zx_b42 (by with_reducible assumption) | with_reducible exact zx_b43 (by with_reducible assumption) | with_reducible exact zx_b33 (by with_reducible assumption) | with_reducible exact zx_b40 (by with_reducible assumption) | with_reducible exact zx_b41 (by with_reducible assumption)) dX0_jumpOnLike_55 (fun u5 H locs hu5 hP hS => ?_)
        exact zx_vret C hr hlk hP hS (by subst hu5; exact (if_neg c1).trans ((if_neg c3).trans ((if_neg c4).trans (rfl)))) dX0_jumpOnLike_58
      · refine lv_iconst (v := 1) hx hb dX0_jumpOnLike_47 (by decide) ?_
        refine lv_goto (tgt := 52) hx hb dX0_jumpOnLike_48 (by decide) ?_
        refine lv_iload_n hx hb dX0_jumpOnLike_52 rfl (lv_at hl 0 rfl) ?_
        refine lv_bipush (v := 10) hx hb dX0_jumpOnLike_53 (by decide) ?_
        refine zxK_branch C hP hS hl.1 (by decide) (Nat.le_of_ble_eq_true rfl) (by first | with_reducible assumption | with_reducible exact zx_in (by with_reducible assumption) | with_reducible exact zx_b10 (by with_reducible assumption) | with_reducible exact zx_b21 (by with_reducible assumption) | with_reducible exact zx_b31 (by with_reducible assumption) | with_reducible exact zx_b32 (by with_reducible assumption) | with_reducible exact zx_b42 (by with_reducible assumption) | with_reducible exact zx_b43 (by with_reducible assumption) | with_reducible exact zx_b33 (by with_reducible assumption) | with_reducible exact zx_b40 (by with_reducible assumption) | with_reducible exact zx_b41 (by with_reducible assumption)) dX0_jumpOnLike_55 (fun u6 H locs hu6 hP hS => ?_)
        exact zx_vret C hr hlk hP hS (by subst hu6; exact (if_neg c1).trans ((if_neg c3).trans ((if_pos c4).trans (rfl)))) dX0_jumpOnLike_58
    · refine lv_aload_n hx hb dX0_jumpOnLike_28 rfl (lv_at hl 2 rfl) ?_
      refine zxK_fault C hP hS hl.1 (by decide) (Nat.le_of_ble_eq_true rfl) dX0_jumpOnLike_29 (fun u7 H locs hu7 hP hS => ?_)
      exact zx_vret C hr hlk hP hS (by subst hu7; exact (if_neg c1).trans ((if_pos c3).trans (rfl))) dX0_jumpOnLike_32
section
variable {p : Program} {l : Launch} {e : Env} {R : Room} {s : State} {m : MethodId} {args : Array Value} {below : List Frame} {meth : Method} {c : Code} {H : Heap} {locs : List Loc} {Q : State → Prop} {cc : ByteArray} {pc nL : Nat} {ls : Array Slot} {rest : List Value} {k : Zxk} {u : Zxs} {H0 : Heap}
set_option maxHeartbeats 4000000 in
set_option maxRecDepth 100000 in
theorem zxK_jumpOnLike (C : ZxC p s m args c cc nL k) (hP : ZxP k u H) (hS : va_S (ZxA k) H0 H locs) (hsz : ls.size = nL) (hR : 4 + 1 ≤ R.frames ∧ 8 + (3 + 11) + 40 * 4 ≤ R.locals) (hw : (rest.map fun v => v.category).sum ≤ 8) (hdg : decode cc pc = .ok (.invokevirtual 124, 3)) (kk : ∀ (u1 : Zxs) (H1 : Heap) (locs1 : List Loc), u1 = zx_jumpOnLike u  → ZxP k u1 H1 → va_S (ZxA k) H0 H1 locs1 → W p l e R s m args below meth c H1 locs1 0 0 Q (F0 m (pc + 3) ls (rest))) : W p l e R s m args below meth c H locs 0 0 Q (F0 m pc ls (.ref (zxa_this k) :: rest)) :=
  zx_callV (y := yX0_jumpOnLike) (n := 0) (As := []) C (zxM_jumpOnLike l k C.2.2 u  ) wsX0_step_c_jumpOnLike wsX0_step_l_jumpOnLike wsX0_step_i_jumpOnLike wsX0_step_v_jumpOnLike rfl (by decide +kernel) hP hS hsz hR hw rfl hdg (fun H1 locs1 hP1 hS1 => kk _ H1 locs1 rfl hP1 hS1)
end

def zx_store (u : Zxs) (a1 a2 a3 : Int32) : Zxs :=
  if (zx_isWord a1) = 0 then (
    let u2 := zx_fault u
    u2)
  else (
    if (zx_isWord ((zxg_sp u) - 1)) = 0 then (
      let u8 := zx_fault u
      u8)
    else (
      let u4 := zxs_words u (upd (zxg_words u) a1.toNatClampNeg (zxg_top u))
      let u5 := zxs_sp u4 ((zxg_sp u) - 1)
      let u6 := zxs_top u5 (zxg_words u5 ((zxg_sp u) - 1).toNatClampNeg)
      let u7 := zx_finish u6 ((zxg_pc u6) + a2) a3
      u7))
set_option maxHeartbeats 4000000 in
set_option maxRecDepth 100000 in
theorem zxM_store (l : Launch) (k : Zxk) (Dk : ZxD k) (u : Zxs) (a1 a2 a3 : Int32) : Met l yX0_store (.code yX0_store cX0_store 5 none :: wsX0_step) (zrm 1) (ZxB k [.ref (zxa_this k), .int a1, .int a2, .int a3] u) (ZxQ k none (zx_store u a1 a2 a3)) 0 0 (ZxA k) := by
  refine zxE_in (by decide) rfl (Nat.le_of_ble_eq_true rfl) Dk ?_
  intro p e s m below meth c ls C hr hlk hP hl
  have hx := C.1.1
  have hb := C.1.2.1
  have hl : lv_has ls 5 [(0, .ref (zxa_this k)), (1, .int a1), (2, .int a2), (3, .int a3)] := hl
  have hS : va_S (ZxA k) s.heap s.heap [] := va_S.rf
  refine lv_aload_n hx hb dX0_store_0 rfl (lv_at hl 0 rfl) ?_
  refine zxG_sp C hP dX0_store_1 ?_
  refine lv_iconst (v := 1) hx hb dX0_store_4 (by decide) ?_
  refine lv_isub hx hb dX0_store_5 ?_
  refine lv_istore (lv' := [(4, .int ((zxg_sp u) - 1)), (0, .ref (zxa_this k)), (1, .int a1), (2, .int a2), (3, .int a3)]) hx hb dX0_store_6 hl (by decide) rfl (fun ls hl => ?_)
  refine lv_iload_n hx hb dX0_store_8 rfl (lv_at hl 2 rfl) ?_
  refine zxK_isWord C hl.1 (by decide) (Nat.le_of_ble_eq_true rfl) dX0_store_9 ?_
  refine lv_if_eq (tgt := 23) hx hb dX0_store_12 (by decide) (fun c1 => ?_) (fun c1 => ?_)
  · refine lv_aload_n hx hb dX0_store_23 rfl (lv_at hl 1 rfl) ?_
    refine zxK_fault C hP hS hl.1 (by decide) (Nat.le_of_ble_eq_true rfl) dX0_store_24 (fun u2 H locs hu2 hP hS => ?_)
    exact zx_vret C hr hlk hP hS (by subst hu2; exact (if_pos c1).trans (rfl)) dX0_store_27
  · refine lv_iload hx hb dX0_store_15 (lv_at hl 0 rfl) ?_
    refine zxK_isWord C hl.1 (by decide) (Nat.le_of_ble_eq_true rfl) dX0_store_17 ?_
    refine lv_if_ne (tgt := 28) hx hb dX0_store_20 (by decide) (fun c3 => ?_) (fun c3 => ?_)
    · refine lv_aload_n hx hb dX0_store_28 rfl (lv_at hl 1 rfl) ?_
      refine zxG_words C hP dX0_store_29 ?_
      refine lv_iload_n hx hb dX0_store_32 rfl (lv_at hl 2 rfl) ?_
      refine lv_aload_n hx hb dX0_store_33 rfl (lv_at hl 1 rfl) ?_
      refine zxG_top C hP dX0_store_34 ?_
      refine zxS_words C hP hS (by first | with_reducible assumption | with_reducible exact zx_in (by with_reducible assumption) | with_reducible exact zx_b10 (by with_reducible assumption) | with_reducible exact zx_b21 (by with_reducible assumption) | with_reducible exact zx_b31 (by with_reducible assumption) | with_reducible exact zx_b32 (by with_reducible assumption) | with_reducible exact zx_b42 (by with_reducible assumption) | with_reducible exact zx_b43 (by with_reducible assumption) | with_reducible exact zx_b33 (by with_reducible assumption) | with_reducible exact zx_b40 (by with_reducible assumption) | with_reducible exact zx_b41 (by with_reducible assumption)) dX0_store_37 (fun u4 H locs hu4 hP hS => ?_)
      refine lv_aload_n hx hb dX0_store_38 rfl (lv_at hl 1 rfl) ?_
      refine lv_iload hx hb dX0_store_39 (lv_at hl 0 rfl) ?_
      refine zxP_sp C hP hS dX0_store_41 (fun u5 H locs hu5 hP hS => ?_)
      refine lv_aload_n hx hb dX0_store_44 rfl (lv_at hl 1 rfl) ?_
      refine lv_aload_n hx hb dX0_store_45 rfl (lv_at hl 1 rfl) ?_
      refine zxG_words C hP dX0_store_46 ?_
      refine lv_iload hx hb dX0_store_49 (lv_at hl 0 rfl) ?_
      refine zxL_words C hP (by first | with_reducible assumption | with_reducible exact zx_in (by with_reducible assumption) | with_reducible exact zx_b10 (by with_reducible assumption) | with_reducible exact zx_b21 (by with_reducible assumption) | with_reducible exact zx_b31 (by with_reducible assumption) | with_reducible exact zx_b32 (by with_reducible assumption) | with_reducible exact zx_b42 (by with_reducible assumption) | with_reducible exact zx_b43 (by with_reducible assumption) | with_reducible exact zx_b33 (by with_reducible assumption) | with_reducible exact zx_b40 (by with_reducible assumption) | with_reducible exact zx_b41 (by with_reducible assumption)) dX0_store_51 ?_
      refine zxP_top C hP hS dX0_store_52 (fun u6 H locs hu6 hP hS => ?_)
      refine lv_aload_n hx hb dX0_store_55 rfl (lv_at hl 1 rfl) ?_
      refine lv_aload_n hx hb dX0_store_56 rfl (lv_at hl 1 rfl) ?_
      refine zxG_pc C hP dX0_store_57 ?_
      refine lv_iload_n hx hb dX0_store_60 rfl (lv_at hl 3 rfl) ?_
      refine lv_iadd hx hb dX0_store_61 ?_
      refine lv_iload_n hx hb dX0_store_62 rfl (lv_at hl 4 rfl) ?_
      refine zxK_finish C hP hS hl.1 (by decide) (Nat.le_of_ble_eq_true rfl) dX0_store_63 (fun u7 H locs hu7 hP hS => ?_)
      exact zx_vret C hr hlk hP hS (by subst hu7 hu6 hu5 hu4; exact (if_neg c1).trans ((if_neg c3).trans (rfl))) dX0_store_66
    · refine lv_aload_n hx hb dX0_store_23 rfl (lv_at hl 1 rfl) ?_
      refine zxK_fault C hP hS hl.1 (by decide) (Nat.le_of_ble_eq_true rfl) dX0_store_24 (fun u8 H locs hu8 hP hS => ?_)
      exact zx_vret C hr hlk hP hS (by subst hu8; exact (if_neg c1).trans ((if_pos c3).trans (rfl))) dX0_store_27
section
variable {p : Program} {l : Launch} {e : Env} {R : Room} {s : State} {m : MethodId} {args : Array Value} {below : List Frame} {meth : Method} {c : Code} {H : Heap} {locs : List Loc} {Q : State → Prop} {cc : ByteArray} {pc nL : Nat} {ls : Array Slot} {rest : List Value} {k : Zxk} {u : Zxs} {H0 : Heap}
set_option maxHeartbeats 4000000 in
set_option maxRecDepth 100000 in
theorem zxK_store {a1 a2 a3 : Int32} (C : ZxC p s m args c cc nL k) (hP : ZxP k u H) (hS : va_S (ZxA k) H0 H locs) (hsz : ls.size = nL) (hR : 1 + 1 ≤ R.frames ∧ 8 + (5 + 11) + 40 * 1 ≤ R.locals) (hw : (rest.map fun v => v.category).sum ≤ 8) (hdg : decode cc pc = .ok (.invokevirtual 146, 3)) (kk : ∀ (u1 : Zxs) (H1 : Heap) (locs1 : List Loc), u1 = zx_store u a1 a2 a3 → ZxP k u1 H1 → va_S (ZxA k) H0 H1 locs1 → W p l e R s m args below meth c H1 locs1 0 0 Q (F0 m (pc + 3) ls (rest))) : W p l e R s m args below meth c H locs 0 0 Q (F0 m pc ls (.int a3 :: .int a2 :: .int a1 :: .ref (zxa_this k) :: rest)) :=
  zx_callV (y := yX0_store) (n := 3) (As := [.int a1, .int a2, .int a3]) C (zxM_store l k C.2.2 u a1 a2 a3 ) wsX0_step_c_store wsX0_step_l_store wsX0_step_i_store wsX0_step_v_store rfl (by decide +kernel) hP hS hsz hR hw rfl hdg (fun H1 locs1 hP1 hS1 => kk _ H1 locs1 rfl hP1 hS1)
end

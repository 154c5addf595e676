def zt_pair (u : Zts) (a1 : Int32) : Int32 × Zts :=
  let r2 := (zt_byteAt u a1).1
  let u1 := (zt_byteAt u a1).2
  let r4 := (zt_byteAt u1 (a1 + 1)).1
  let u3 := (zt_byteAt u1 (a1 + 1)).2
  ((r2 * 256) + r4, u3)
set_option maxHeartbeats 4000000 in
set_option maxRecDepth 100000 in
theorem ztM_pair (l : Launch) (k : Ztk) (Dk : ZtD k) (u : Zts) (a1 : Int32) : Met l yX1_pair (.code yX1_pair cX1_pair 3 (some .int) :: zwT) (zrm 1) (ZtB k [.ref (zta_this k), .int a1] u) (ZtQ k (some (.int (zt_pair u a1).1)) (zt_pair u a1).2) 0 0 (ZtA k) := by
  refine ztE_in (by decide) rfl (Nat.le_of_ble_eq_true rfl) Dk ?_
  intro p e s m below meth c ls C hr hlk hP hl
  have hx := C.1.1
  have hb := C.1.2.1
  have hl : lv_has ls 3 [(0, .ref (zta_this k)), (1, .int a1)] := hl
  have hS : va_S (ZtA k) s.heap s.heap [] := va_S.rf
  refine lv_aload_n hx hb dX1_pair_0 rfl (lv_at hl 0 rfl) ?_
  refine lv_iload_n hx hb dX1_pair_1 rfl (lv_at hl 1 rfl) ?_
  refine ztK_byteAt C hP hS hl.1 (by decide) (Nat.le_of_ble_eq_true rfl) dX1_pair_2 (fun r2 u1 H locs hr2 hu1 hP hS => ?_)
  refine lv_istore_n (lv' := [(2, .int r2), (0, .ref (zta_this k)), (1, .int a1)]) hx hb dX1_pair_5 rfl hl (by decide) rfl (fun ls hl => ?_)
  refine lv_iload_n hx hb dX1_pair_6 rfl (lv_at hl 0 rfl) ?_
  refine lv_sipush (v := 256) hx hb dX1_pair_7 (by decide) ?_
  refine lv_imul hx hb dX1_pair_10 ?_
  refine lv_aload_n hx hb dX1_pair_11 rfl (lv_at hl 1 rfl) ?_
  refine lv_iload_n hx hb dX1_pair_12 rfl (lv_at hl 2 rfl) ?_
  refine lv_iconst (v := 1) hx hb dX1_pair_13 (by decide) ?_
  refine lv_iadd hx hb dX1_pair_14 ?_
  refine ztK_byteAt C hP hS hl.1 (by decide) (Nat.le_of_ble_eq_true rfl) dX1_pair_15 (fun r4 u3 H locs hr4 hu3 hP hS => ?_)
  refine lv_iadd hx hb dX1_pair_18 ?_
  exact zt_iret C hr hlk hP hS (by subst hu3 hr4 hu1 hr2; exact rfl) dX1_pair_19
section
variable {p : Program} {l : Launch} {e : Env} {R : Room} {s : State} {m : MethodId} {args : Array Value} {below : List Frame} {meth : Method} {c : Code} {H : Heap} {locs : List Loc} {Q : State → Prop} {cc : ByteArray} {pc nL : Nat} {ls : Array Slot} {rest : List Value} {k : Ztk} {u : Zts} {H0 : Heap}
set_option maxHeartbeats 4000000 in
set_option maxRecDepth 100000 in
theorem ztK_pair {a1 : Int32} (C : ZtC p s m args c cc nL k) (hP : ZtP k u H) (hS : va_S (ZtA k) H0 H locs) (hsz : ls.size = nL) (hR : 1 + 1 ≤ R.frames ∧ 8 + (3 + 11) + 40 * 1 ≤ R.locals) (hw : (rest.map fun v => v.category).sum ≤ 8) (hdg : decode cc pc = .ok (.invokevirtual 78, 3)) (kk : ∀ (r1 : Int32) (u1 : Zts) (H1 : Heap) (locs1 : List Loc), r1 = (zt_pair u a1).1 → u1 = (zt_pair u a1).2 → ZtP k u1 H1 → va_S (ZtA k) H0 H1 locs1 → W p l e R s m args below meth c H1 locs1 0 0 Q (F0 m (pc + 3) ls (.int r1 :: rest))) : W p l e R s m args below meth c H locs 0 0 Q (F0 m pc ls (.int a1 :: .ref (zta_this k) :: rest)) :=
  zt_callV (y := yX1_pair) (n := 1) (As := [.int a1]) C (ztM_pair l k C.2.2 u a1 ) zwT_c_pair zwT_l_pair zwT_i_pair zwT_v_pair rfl (by decide +kernel) hP hS hsz hR hw rfl hdg (fun H1 locs1 hP1 hS1 => kk _ _ H1 locs1 rfl rfl hP1 hS1)
end
set_option maxHeartbeats 4000000 in
theorem zt_G_pair {w0 : Nat → Int32} {n : Nat} {u : Zts} (a1 : Int32) (h : ZtG w0 n u) : ZtG w0 (n + 0) (zt_pair u a1).2 := by
  have gu : ZtG w0 (n + 0) u := h
  obtain ⟨r2, hr2⟩ : ∃ z, z = (zt_byteAt u a1).1 := ⟨_, rfl⟩
  obtain ⟨u1, hu1⟩ : ∃ z, z = (zt_byteAt u a1).2 := ⟨_, rfl⟩
  have gu1 : ZtG w0 (n + 0) u1 := by rw [hu1]; exact zt_Gle (by omega) (zt_G_byteAt _ gu)
  obtain ⟨r4, hr4⟩ : ∃ z, z = (zt_byteAt u1 (a1 + 1)).1 := ⟨_, rfl⟩
  obtain ⟨u3, hu3⟩ : ∃ z, z = (zt_byteAt u1 (a1 + 1)).2 := ⟨_, rfl⟩
  have gu3 : ZtG w0 (n + 0) u3 := by rw [hu3]; exact zt_Gle (by omega) (zt_G_byteAt _ gu1)
  have eq9 : zt_pair u a1 = ((r2 * 256) + r4, u3) := by subst hu3 hr4 hu1 hr2; exact rfl
  rw [eq9]; exact zt_Gle (by omega) gu3

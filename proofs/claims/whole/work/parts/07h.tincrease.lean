def zt_increase (u : Zts) : Int32 × Zts :=
  let r2 := (zt_byteAt u ((ztg_pc u) + 1)).1
  let u1 := (zt_byteAt u ((ztg_pc u) + 1)).2
  let r4 := (zt_byteAt u1 ((ztg_pc u1) + 2)).1
  let u3 := (zt_byteAt u1 ((ztg_pc u1) + 2)).2
  let r6 := (zt_read u3 ((ztg_lv u) + r2)).1
  let u5 := (zt_read u3 ((ztg_lv u) + r2)).2
  let u7 := zt_write u5 ((ztg_lv u) + r2) (r6 + (zt_signed r4 8))
  let u8 := zts_next u7 ((ztg_pc u7) + 3)
  (7, u8)
set_option maxHeartbeats 4000000 in
set_option maxRecDepth 100000 in
theorem ztM_increase (l : Launch) (k : Ztk) (Dk : ZtD k) (u : Zts) {w0 : Nat → Int32} (hN : ZtG w0 4 u) : Met l yX1_increase (.code yX1_increase cX1_increase 3 (some .int) :: zwT) (zrm 2) (ZtB k [.ref (zta_this k)] u) (ZtQ k (some (.int (zt_increase u ).1)) (zt_increase u ).2) 0 0 (ZtA k) := by
  refine ztE_in (by decide) rfl (Nat.le_of_ble_eq_true rfl) Dk ?_
  intro p e s m below meth c ls C hr hlk hP hl
  have hx := C.1.1
  have hb := C.1.2.1
  have hl : lv_has ls 3 [(0, .ref (zta_this k))] := hl
  have hS : va_S (ZtA k) s.heap s.heap [] := va_S.rf
  refine lv_aload_n hx hb dX1_increase_0 rfl (lv_at hl 0 rfl) ?_
  refine ztG_lv C hP dX1_increase_1 ?_
  refine lv_aload_n hx hb dX1_increase_4 rfl (lv_at hl 0 rfl) ?_
  refine lv_aload_n hx hb dX1_increase_5 rfl (lv_at hl 0 rfl) ?_
  refine ztG_pc C hP dX1_increase_6 ?_
  refine lv_iconst (v := 1) hx hb dX1_increase_9 (by decide) ?_
  refine lv_iadd hx hb dX1_increase_10 ?_
  refine ztK_byteAt C hP hS hl.1 (by decide) (Nat.le_of_ble_eq_true rfl) dX1_increase_11 (fun r2 u1 H locs hr2 hu1 hP hS => ?_)
  have hN_u1 : ZtG (w0) 4 u1 := by rw [hu1]; exact zt_Gle (by decide) (zt_G_byteAt _ hN)
  refine lv_iadd hx hb dX1_increase_14 ?_
  refine lv_istore_n (lv' := [(1, .int ((ztg_lv u) + r2)), (0, .ref (zta_this k))]) hx hb dX1_increase_15 rfl hl (by decide) rfl (fun ls hl => ?_)
  refine lv_aload_n hx hb dX1_increase_16 rfl (lv_at hl 1 rfl) ?_
  refine lv_aload_n hx hb dX1_increase_17 rfl (lv_at hl 1 rfl) ?_
  refine ztG_pc C hP dX1_increase_18 ?_
  refine lv_iconst (v := 2) hx hb dX1_increase_21 (by decide) ?_
  refine lv_iadd hx hb dX1_increase_22 ?_
  refine ztK_byteAt C hP hS hl.1 (by decide) (Nat.le_of_ble_eq_true rfl) dX1_increase_23 (fun r4 u3 H locs hr4 hu3 hP hS => ?_)
  have hN_u3 : ZtG (w0) 4 u3 := by rw [hu3]; exact zt_Gle (by decide) (zt_G_byteAt _ hN_u1)
  refine lv_bipush (v := 8) hx hb dX1_increase_26 (by decide) ?_
  refine ztK_signed C hl.1 (by decide) (Nat.le_of_ble_eq_true rfl) dX1_increase_28 ?_
  refine lv_istore_n (lv' := [(2, .int (zt_signed r4 8)), (1, .int ((ztg_lv u) + r2)), (0, .ref (zta_this k))]) hx hb dX1_increase_31 rfl hl (by decide) rfl (fun ls hl => ?_)
  refine lv_aload_n hx hb dX1_increase_32 rfl (lv_at hl 2 rfl) ?_
  refine lv_iload_n hx hb dX1_increase_33 rfl (lv_at hl 1 rfl) ?_
  refine lv_aload_n hx hb dX1_increase_34 rfl (lv_at hl 2 rfl) ?_
  refine lv_iload_n hx hb dX1_increase_35 rfl (lv_at hl 1 rfl) ?_
  refine ztK_read C hP hS hl.1 (by decide) (Nat.le_of_ble_eq_true rfl) dX1_increase_36 (fun r6 u5 H locs hr6 hu5 hP hS => ?_)
  have hN_u5 : ZtG (w0) 4 u5 := by rw [hu5]; exact zt_Gle (by decide) (zt_G_read _ hN_u3)
  refine lv_iload_n hx hb dX1_increase_39 rfl (lv_at hl 0 rfl) ?_
  refine lv_iadd hx hb dX1_increase_40 ?_
  refine ztK_write C hP hS hl.1 (by decide) (Nat.le_of_ble_eq_true rfl) (w0 := w0) (zt_Gle (by decide) hN_u5) dX1_increase_41 (fun u7 H locs hu7 hP hS => ?_)
  have hN_u7 : ZtG (w0) 5 u7 := by rw [hu7]; exact zt_Gle (by decide) (zt_G_write _ _ (by decide) hN_u5)
  refine lv_aload_n hx hb dX1_increase_44 rfl (lv_at hl 2 rfl) ?_
  refine lv_aload_n hx hb dX1_increase_45 rfl (lv_at hl 2 rfl) ?_
  refine ztG_pc C hP dX1_increase_46 ?_
  refine lv_iconst (v := 3) hx hb dX1_increase_49 (by decide) ?_
  refine lv_iadd hx hb dX1_increase_50 ?_
  refine ztP_next C hP hS dX1_increase_51 (fun u8 H locs hu8 hP hS => ?_)
  have hN_u8 : ZtG (w0) 5 u8 := by rw [hu8]; exact zt_Gs_next _ hN_u7
  refine lv_bipush (v := 7) hx hb dX1_increase_54 (by decide) ?_
  exact zt_iret C hr hlk hP hS (by subst hu8 hu7 hu5 hr6 hu3 hr4 hu1 hr2; exact rfl) dX1_increase_56
section
variable {p : Program} {l : Launch} {e : Env} {R : Room} {s : State} {m : MethodId} {args : Array Value} {below : List Frame} {meth : Method} {c : Code} {H : Heap} {locs : List Loc} {Q : State → Prop} {cc : ByteArray} {pc nL : Nat} {ls : Array Slot} {rest : List Value} {k : Ztk} {u : Zts} {H0 : Heap}
set_option maxHeartbeats 4000000 in
set_option maxRecDepth 100000 in
theorem ztK_increase (C : ZtC p s m args c cc nL k) (hP : ZtP k u H) (hS : va_S (ZtA k) H0 H locs) (hsz : ls.size = nL) (hR : 2 + 1 ≤ R.frames ∧ 8 + (3 + 11) + 40 * 2 ≤ R.locals) (hw : (rest.map fun v => v.category).sum ≤ 8) {w0 : Nat → Int32} (hN : ZtG w0 4 u) (hdg : decode cc pc = .ok (.invokevirtual 106, 3)) (kk : ∀ (r1 : Int32) (u1 : Zts) (H1 : Heap) (locs1 : List Loc), r1 = (zt_increase u ).1 → u1 = (zt_increase u ).2 → ZtP k u1 H1 → va_S (ZtA k) H0 H1 locs1 → W p l e R s m args below meth c H1 locs1 0 0 Q (F0 m (pc + 3) ls (.int r1 :: rest))) : W p l e R s m args below meth c H locs 0 0 Q (F0 m pc ls (.ref (zta_this k) :: rest)) :=
  zt_callV (y := yX1_increase) (n := 0) (As := []) C (ztM_increase l k C.2.2 u  hN) zwT_c_increase zwT_l_increase zwT_i_increase zwT_v_increase rfl (by decide +kernel) hP hS hsz hR hw rfl hdg (fun H1 locs1 hP1 hS1 => kk _ _ H1 locs1 rfl rfl hP1 hS1)
end
set_option maxHeartbeats 4000000 in
theorem zt_G_increase {w0 : Nat → Int32} {n : Nat} {u : Zts} (hn : n ≤ 4) (h : ZtG w0 n u) : ZtG w0 (n + 1) (zt_increase u ).2 := by
  have gu : ZtG w0 (n + 0) u := h
  obtain ⟨r2, hr2⟩ : ∃ z, z = (zt_byteAt u ((ztg_pc u) + 1)).1 := ⟨_, rfl⟩
  obtain ⟨u1, hu1⟩ : ∃ z, z = (zt_byteAt u ((ztg_pc u) + 1)).2 := ⟨_, rfl⟩
  have gu1 : ZtG w0 (n + 0) u1 := by rw [hu1]; exact zt_Gle (by omega) (zt_G_byteAt _ gu)
  obtain ⟨r4, hr4⟩ : ∃ z, z = (zt_byteAt u1 ((ztg_pc u1) + 2)).1 := ⟨_, rfl⟩
  obtain ⟨u3, hu3⟩ : ∃ z, z = (zt_byteAt u1 ((ztg_pc u1) + 2)).2 := ⟨_, rfl⟩
  have gu3 : ZtG w0 (n + 0) u3 := by rw [hu3]; exact zt_Gle (by omega) (zt_G_byteAt _ gu1)
  obtain ⟨r6, hr6⟩ : ∃ z, z = (zt_read u3 ((ztg_lv u) + r2)).1 := ⟨_, rfl⟩
  obtain ⟨u5, hu5⟩ : ∃ z, z = (zt_read u3 ((ztg_lv u) + r2)).2 := ⟨_, rfl⟩
  have gu5 : ZtG w0 (n + 0) u5 := by rw [hu5]; exact zt_Gle (by omega) (zt_G_read _ gu3)
  obtain ⟨u7, hu7⟩ : ∃ z, z = zt_write u5 ((ztg_lv u) + r2) (r6 + (zt_signed r4 8)) := ⟨_, rfl⟩
  have gu7 : ZtG w0 (n + 1) u7 := by rw [hu7]; exact zt_Gle (by omega) (zt_G_write _ _ (by omega) gu5)
  obtain ⟨u8, hu8⟩ : ∃ z, z = zts_next u7 ((ztg_pc u7) + 3) := ⟨_, rfl⟩
  have gu8 : ZtG w0 (n + 1) u8 := by rw [hu8]; exact zt_Gs_next _ gu7
  have eq9 : zt_increase u = (7, u8) := by subst hu8 hu7 hu5 hr6 hu3 hr4 hu1 hr2; exact rfl
  rw [eq9]; exact zt_Gle (by omega) gu8

def zt_push (u : Zts) (a1 a2 a3 : Int32) : Int32 × Zts :=
  let u1 := zts_sp u ((ztg_sp u) + 1)
  let u2 := zts_top u1 a1
  let u3 := zt_write u2 (ztg_sp u2) (ztg_top u2)
  let u4 := zts_next u3 ((ztg_pc u3) + a2)
  (a3, u4)
set_option maxHeartbeats 4000000 in
set_option maxRecDepth 100000 in
theorem ztM_push (l : Launch) (k : Ztk) (Dk : ZtD k) (u : Zts) (a1 a2 a3 : Int32) {w0 : Nat → Int32} (hN : ZtG w0 4 u) : Met l yX1_push (.code yX1_push cX1_push 4 (some .int) :: zwT) (zrm 2) (ZtB k [.ref (zta_this k), .int a1, .int a2, .int a3] u) (ZtQ k (some (.int (zt_push u a1 a2 a3).1)) (zt_push u a1 a2 a3).2) 0 0 (ZtA k) := by
  refine ztE_in (by decide) rfl (Nat.le_of_ble_eq_true rfl) Dk ?_
  intro p e s m below meth c ls C hr hlk hP hl
  have hx := C.1.1
  have hb := C.1.2.1
  have hl : lv_has ls 4 [(0, .ref (zta_this k)), (1, .int a1), (2, .int a2), (3, .int a3)] := hl
  have hS : va_S (ZtA k) s.heap s.heap [] := va_S.rf
  refine lv_aload_n hx hb dX1_push_0 rfl (lv_at hl 0 rfl) ?_
  refine lv_dup hx hb dX1_push_1 rfl ?_
  refine ztG_sp C hP dX1_push_2 ?_
  refine lv_iconst (v := 1) hx hb dX1_push_5 (by decide) ?_
  refine lv_iadd hx hb dX1_push_6 ?_
  refine ztP_sp C hP hS dX1_push_7 (fun u1 H locs hu1 hP hS => ?_)
  have hN_u1 : ZtG (w0) 4 u1 := by rw [hu1]; exact zt_Gs_sp _ hN
  refine lv_aload_n hx hb dX1_push_10 rfl (lv_at hl 0 rfl) ?_
  refine lv_iload_n hx hb dX1_push_11 rfl (lv_at hl 1 rfl) ?_
  refine ztP_top C hP hS dX1_push_12 (fun u2 H locs hu2 hP hS => ?_)
  have hN_u2 : ZtG (w0) 4 u2 := by rw [hu2]; exact zt_Gs_top _ hN_u1
  refine lv_aload_n hx hb dX1_push_15 rfl (lv_at hl 0 rfl) ?_
  refine lv_aload_n hx hb dX1_push_16 rfl (lv_at hl 0 rfl) ?_
  refine ztG_sp C hP dX1_push_17 ?_
  refine lv_aload_n hx hb dX1_push_20 rfl (lv_at hl 0 rfl) ?_
  refine ztG_top C hP dX1_push_21 ?_
  refine ztK_write C hP hS hl.1 (by decide) (Nat.le_of_ble_eq_true rfl) (w0 := w0) (zt_Gle (by decide) hN_u2) dX1_push_24 (fun u3 H locs hu3 hP hS => ?_)
  have hN_u3 : ZtG (w0) 5 u3 := by rw [hu3]; exact zt_Gle (by decide) (zt_G_write _ _ (by decide) hN_u2)
  refine lv_aload_n hx hb dX1_push_27 rfl (lv_at hl 0 rfl) ?_
  refine lv_aload_n hx hb dX1_push_28 rfl (lv_at hl 0 rfl) ?_
  refine ztG_pc C hP dX1_push_29 ?_
  refine lv_iload_n hx hb dX1_push_32 rfl (lv_at hl 2 rfl) ?_
  refine lv_iadd hx hb dX1_push_33 ?_
  refine ztP_next C hP hS dX1_push_34 (fun u4 H locs hu4 hP hS => ?_)
  have hN_u4 : ZtG (w0) 5 u4 := by rw [hu4]; exact zt_Gs_next _ hN_u3
  refine lv_iload_n hx hb dX1_push_37 rfl (lv_at hl 3 rfl) ?_
  exact zt_iret C hr hlk hP hS (by subst hu4 hu3 hu2 hu1; exact rfl) dX1_push_38
section
variable {p : Program} {l : Launch} {e : Env} {R : Room} {s : State} {m : MethodId} {args : Array Value} {below : List Frame} {meth : Method} {c : Code} {H : Heap} {locs : List Loc} {Q : State → Prop} {cc : ByteArray} {pc nL : Nat} {ls : Array Slot} {rest : List Value} {k : Ztk} {u : Zts} {H0 : Heap}
set_option maxHeartbeats 4000000 in
set_option maxRecDepth 100000 in
theorem ztK_push {a1 a2 a3 : Int32} (C : ZtC p s m args c cc nL k) (hP : ZtP k u H) (hS : va_S (ZtA k) H0 H locs) (hsz : ls.size = nL) (hR : 2 + 1 ≤ R.frames ∧ 8 + (4 + 11) + 40 * 2 ≤ R.locals) (hw : (rest.map fun v => v.category).sum ≤ 8) {w0 : Nat → Int32} (hN : ZtG w0 4 u) (hdg : decode cc pc = .ok (.invokevirtual 81, 3)) (kk : ∀ (r1 : Int32) (u1 : Zts) (H1 : Heap) (locs1 : List Loc), r1 = (zt_push u a1 a2 a3).1 → u1 = (zt_push u a1 a2 a3).2 → ZtP k u1 H1 → va_S (ZtA k) H0 H1 locs1 → W p l e R s m args below meth c H1 locs1 0 0 Q (F0 m (pc + 3) ls (.int r1 :: rest))) : W p l e R s m args below meth c H locs 0 0 Q (F0 m pc ls (.int a3 :: .int a2 :: .int a1 :: .ref (zta_this k) :: rest)) :=
  zt_callV (y := yX1_push) (n := 3) (As := [.int a1, .int a2, .int a3]) C (ztM_push l k C.2.2 u a1 a2 a3 hN) zwT_c_push zwT_l_push zwT_i_push zwT_v_push rfl (by decide +kernel) hP hS hsz hR hw rfl hdg (fun H1 locs1 hP1 hS1 => kk _ _ H1 locs1 rfl rfl hP1 hS1)
end
set_option maxHeartbeats 4000000 in
theorem zt_G_push {w0 : Nat → Int32} {n : Nat} {u : Zts} (a1 a2 a3 : Int32) (hn : n ≤ 4) (h : ZtG w0 n u) : ZtG w0 (n + 1) (zt_push u a1 a2 a3).2 := by
  have gu : ZtG w0 (n + 0) u := h
  obtain ⟨u1, hu1⟩ : ∃ z, z = zts_sp u ((ztg_sp u) + 1) := ⟨_, rfl⟩
  have gu1 : ZtG w0 (n + 0) u1 := by rw [hu1]; exact zt_Gs_sp _ gu
  obtain ⟨u2, hu2⟩ : ∃ z, z = zts_top u1 a1 := ⟨_, rfl⟩
  have gu2 : ZtG w0 (n + 0) u2 := by rw [hu2]; exact zt_Gs_top _ gu1
  obtain ⟨u3, hu3⟩ : ∃ z, z = zt_write u2 (ztg_sp u2) (ztg_top u2) := ⟨_, rfl⟩
  have gu3 : ZtG w0 (n + 1) u3 := by rw [hu3]; exact zt_Gle (by omega) (zt_G_write _ _ (by omega) gu2)
  obtain ⟨u4, hu4⟩ : ∃ z, z = zts_next u3 ((ztg_pc u3) + a2) := ⟨_, rfl⟩
  have gu4 : ZtG w0 (n + 1) u4 := by rw [hu4]; exact zt_Gs_next _ gu3
  have eq9 : zt_push u a1 a2 a3 = (a3, u4) := by subst hu4 hu3 hu2 hu1; exact rfl
  rw [eq9]; exact zt_Gle (by omega) gu4

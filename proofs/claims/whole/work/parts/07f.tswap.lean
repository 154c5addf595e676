def zt_swap (u : Zts) : Int32 × Zts :=
  let r2 := (zt_read u ((ztg_sp u) - 1)).1
  let u1 := (zt_read u ((ztg_sp u) - 1)).2
  let u3 := zt_write u1 (ztg_sp u1) r2
  let u4 := zt_write u3 ((ztg_sp u3) - 1) (ztg_top u3)
  let u5 := zts_top u4 r2
  (7, u5)
set_option maxHeartbeats 4000000 in
set_option maxRecDepth 100000 in
theorem ztM_swap (l : Launch) (k : Ztk) (Dk : ZtD k) (u : Zts) {w0 : Nat → Int32} (hN : ZtG w0 4 u) : Met l yX1_swap (.code yX1_swap cX1_swap 2 (some .int) :: zwT) (zrm 2) (ZtB k [.ref (zta_this k)] u) (ZtQ k (some (.int (zt_swap u ).1)) (zt_swap u ).2) 0 0 (ZtA k) := by
  refine ztE_in (by decide) rfl (Nat.le_of_ble_eq_true rfl) Dk ?_
  intro p e s m below meth c ls C hr hlk hP hl
  have hx := C.1.1
  have hb := C.1.2.1
  have hl : lv_has ls 2 [(0, .ref (zta_this k))] := hl
  have hS : va_S (ZtA k) s.heap s.heap [] := va_S.rf
  refine lv_aload_n hx hb dX1_swap_0 rfl (lv_at hl 0 rfl) ?_
  refine lv_aload_n hx hb dX1_swap_1 rfl (lv_at hl 0 rfl) ?_
  refine ztG_sp C hP dX1_swap_2 ?_
  refine lv_iconst (v := 1) hx hb dX1_swap_5 (by decide) ?_
  refine lv_isub hx hb dX1_swap_6 ?_
  refine ztK_read C hP hS hl.1 (by decide) (Nat.le_of_ble_eq_true rfl) dX1_swap_7 (fun r2 u1 H locs hr2 hu1 hP hS => ?_)
  have hN_u1 : ZtG (w0) 4 u1 := by rw [hu1]; exact zt_Gle (by decide) (zt_G_read _ hN)
  refine lv_istore_n (lv' := [(1, .int r2), (0, .ref (zta_this k))]) hx hb dX1_swap_10 rfl hl (by decide) rfl (fun ls hl => ?_)
  refine lv_aload_n hx hb dX1_swap_11 rfl (lv_at hl 1 rfl) ?_
  refine lv_aload_n hx hb dX1_swap_12 rfl (lv_at hl 1 rfl) ?_
  refine ztG_sp C hP dX1_swap_13 ?_
  refine lv_iload_n hx hb dX1_swap_16 rfl (lv_at hl 0 rfl) ?_
  refine ztK_write C hP hS hl.1 (by decide) (Nat.le_of_ble_eq_true rfl) (w0 := w0) (zt_Gle (by decide) hN_u1) dX1_swap_17 (fun u3 H locs hu3 hP hS => ?_)
  have hN_u3 : ZtG (w0) 5 u3 := by rw [hu3]; exact zt_Gle (by decide) (zt_G_write _ _ (by decide) hN_u1)
  refine lv_aload_n hx hb dX1_swap_20 rfl (lv_at hl 1 rfl) ?_
  refine lv_aload_n hx hb dX1_swap_21 rfl (lv_at hl 1 rfl) ?_
  refine ztG_sp C hP dX1_swap_22 ?_
  refine lv_iconst (v := 1) hx hb dX1_swap_25 (by decide) ?_
  refine lv_isub hx hb dX1_swap_26 ?_
  refine lv_aload_n hx hb dX1_swap_27 rfl (lv_at hl 1 rfl) ?_
  refine ztG_top C hP dX1_swap_28 ?_
  refine ztK_write C hP hS hl.1 (by decide) (Nat.le_of_ble_eq_true rfl) (w0 := w0) (zt_Gle (by decide) hN_u3) dX1_swap_31 (fun u4 H locs hu4 hP hS => ?_)
  have hN_u4 : ZtG (w0) 6 u4 := by rw [hu4]; exact zt_Gle (by decide) (zt_G_write _ _ (by decide) hN_u3)
  refine lv_aload_n hx hb dX1_swap_34 rfl (lv_at hl 1 rfl) ?_
  refine lv_iload_n hx hb dX1_swap_35 rfl (lv_at hl 0 rfl) ?_
  refine ztP_top C hP hS dX1_swap_36 (fun u5 H locs hu5 hP hS => ?_)
  have hN_u5 : ZtG (w0) 6 u5 := by rw [hu5]; exact zt_Gs_top _ hN_u4
  refine lv_bipush (v := 7) hx hb dX1_swap_39 (by decide) ?_
  exact zt_iret C hr hlk hP hS (by subst hu5 hu4 hu3 hu1 hr2; exact rfl) dX1_swap_41
section
variable {p : Program} {l : Launch} {e : Env} {R : Room} {s : State} {m : MethodId} {args : Array Value} {below : List Frame} {meth : Method} {c : Code} {H : Heap} {locs : List Loc} {Q : State → Prop} {cc : ByteArray} {pc nL : Nat} {ls : Array Slot} {rest : List Value} {k : Ztk} {u : Zts} {H0 : Heap}
set_option maxHeartbeats 4000000 in
set_option maxRecDepth 100000 in
theorem ztK_swap (C : ZtC p s m args c cc nL k) (hP : ZtP k u H) (hS : va_S (ZtA k) H0 H locs) (hsz : ls.size = nL) (hR : 2 + 1 ≤ R.frames ∧ 8 + (2 + 11) + 40 * 2 ≤ R.locals) (hw : (rest.map fun v => v.category).sum ≤ 8) {w0 : Nat → Int32} (hN : ZtG w0 4 u) (hdg : decode cc pc = .ok (.invokevirtual 99, 3)) (kk : ∀ (r1 : Int32) (u1 : Zts) (H1 : Heap) (locs1 : List Loc), r1 = (zt_swap u ).1 → u1 = (zt_swap u ).2 → ZtP k u1 H1 → va_S (ZtA k) H0 H1 locs1 → W p l e R s m args below meth c H1 locs1 0 0 Q (F0 m (pc + 3) ls (.int r1 :: rest))) : W p l e R s m args below meth c H locs 0 0 Q (F0 m pc ls (.ref (zta_this k) :: rest)) :=
  zt_callV (y := yX1_swap) (n := 0) (As := []) C (ztM_swap l k C.2.2 u  hN) zwT_c_swap zwT_l_swap zwT_i_swap zwT_v_swap rfl (by decide +kernel) hP hS hsz hR hw rfl hdg (fun H1 locs1 hP1 hS1 => kk _ _ H1 locs1 rfl rfl hP1 hS1)
end
set_option maxHeartbeats 4000000 in
theorem zt_G_swap {w0 : Nat → Int32} {n : Nat} {u : Zts} (hn : n ≤ 4) (h : ZtG w0 n u) : ZtG w0 (n + 2) (zt_swap u ).2 := by
  have gu : ZtG w0 (n + 0) u := h
  obtain ⟨r2, hr2⟩ : ∃ z, z = (zt_read u ((ztg_sp u) - 1)).1 := ⟨_, rfl⟩
  obtain ⟨u1, hu1⟩ : ∃ z, z = (zt_read u ((ztg_sp u) - 1)).2 := ⟨_, rfl⟩
  have gu1 : ZtG w0 (n + 0) u1 := by rw [hu1]; exact zt_Gle (by omega) (zt_G_read _ gu)
  obtain ⟨u3, hu3⟩ : ∃ z, z = zt_write u1 (ztg_sp u1) r2 := ⟨_, rfl⟩
  have gu3 : ZtG w0 (n + 1) u3 := by rw [hu3]; exact zt_Gle (by omega) (zt_G_write _ _ (by omega) gu1)
  obtain ⟨u4, hu4⟩ : ∃ z, z = zt_write u3 ((ztg_sp u3) - 1) (ztg_top u3) := ⟨_, rfl⟩
  have gu4 : ZtG w0 (n + 2) u4 := by rw [hu4]; exact zt_Gle (by omega) (zt_G_write _ _ (by omega) gu3)
  obtain ⟨u5, hu5⟩ : ∃ z, z = zts_top u4 r2 := ⟨_, rfl⟩
  have gu5 : ZtG w0 (n + 2) u5 := by rw [hu5]; exact zt_Gs_top _ gu4
  have eq9 : zt_swap u = (7, u5) := by subst hu5 hu4 hu3 hu1 hr2; exact rfl
  rw [eq9]; exact zt_Gle (by omega) gu5

def zt_giveBack (u : Zts) : Int32 × Zts :=
  let r2 := (zt_read u (ztg_lv u)).1
  let u1 := (zt_read u (ztg_lv u)).2
  let u3 := zts_sp u1 (ztg_lv u1)
  let r5 := (zt_read u3 r2).1
  let u4 := (zt_read u3 r2).2
  let u6 := zts_next u4 r5
  let r8 := (zt_read u6 (r2 + 1)).1
  let u7 := (zt_read u6 (r2 + 1)).2
  let u9 := zts_lv u7 r8
  let u10 := zt_write u9 (ztg_sp u9) (ztg_top u9)
  (9, u10)
set_option maxHeartbeats 4000000 in
set_option maxRecDepth 100000 in
theorem ztM_giveBack (l : Launch) (k : Ztk) (Dk : ZtD k) (u : Zts) {w0 : Nat → Int32} (hN : ZtG w0 4 u) : Met l yX1_giveBack (.code yX1_giveBack cX1_giveBack 2 (some .int) :: zwT) (zrm 2) (ZtB k [.ref (zta_this k)] u) (ZtQ k (some (.int (zt_giveBack u ).1)) (zt_giveBack u ).2) 0 0 (ZtA k) := by
  refine ztE_in (by decide) rfl (Nat.le_of_ble_eq_true rfl) Dk ?_
  intro p e s m below meth c ls C hr hlk hP hl
  have hx := C.1.1
  have hb := C.1.2.1
  have hl : lv_has ls 2 [(0, .ref (zta_this k))] := hl
  have hS : va_S (ZtA k) s.heap s.heap [] := va_S.rf
  refine lv_aload_n hx hb dX1_giveBack_0 rfl (lv_at hl 0 rfl) ?_
  refine lv_aload_n hx hb dX1_giveBack_1 rfl (lv_at hl 0 rfl) ?_
  refine ztG_lv C hP dX1_giveBack_2 ?_
  refine ztK_read C hP hS hl.1 (by decide) (Nat.le_of_ble_eq_true rfl) dX1_giveBack_5 (fun r2 u1 H locs hr2 hu1 hP hS => ?_)
  have hN_u1 : ZtG (w0) 4 u1 := by rw [hu1]; exact zt_Gle (by decide) (zt_G_read _ hN)
  refine lv_istore_n (lv' := [(1, .int r2), (0, .ref (zta_this k))]) hx hb dX1_giveBack_8 rfl hl (by decide) rfl (fun ls hl => ?_)
  refine lv_aload_n hx hb dX1_giveBack_9 rfl (lv_at hl 1 rfl) ?_
  refine lv_aload_n hx hb dX1_giveBack_10 rfl (lv_at hl 1 rfl) ?_
  refine ztG_lv C hP dX1_giveBack_11 ?_
  refine ztP_sp C hP hS dX1_giveBack_14 (fun u3 H locs hu3 hP hS => ?_)
  have hN_u3 : ZtG (w0) 4 u3 := by rw [hu3]; exact zt_Gs_sp _ hN_u1
  refine lv_aload_n hx hb dX1_giveBack_17 rfl (lv_at hl 1 rfl) ?_
  refine lv_aload_n hx hb dX1_giveBack_18 rfl (lv_at hl 1 rfl) ?_
  refine lv_iload_n hx hb dX1_giveBack_19 rfl (lv_at hl 0 rfl) ?_
  refine ztK_read C hP hS hl.1 (by decide) (Nat.le_of_ble_eq_true rfl) dX1_giveBack_20 (fun r5 u4 H locs hr5 hu4 hP hS => ?_)
  have hN_u4 : ZtG (w0) 4 u4 := by rw [hu4]; exact zt_Gle (by decide) (zt_G_read _ hN_u3)
  refine ztP_next C hP hS dX1_giveBack_23 (fun u6 H locs hu6 hP hS => ?_)
  have hN_u6 : ZtG (w0) 4 u6 := by rw [hu6]; exact zt_Gs_next _ hN_u4
  refine lv_aload_n hx hb dX1_giveBack_26 rfl (lv_at hl 1 rfl) ?_
  refine lv_aload_n hx hb dX1_giveBack_27 rfl (lv_at hl 1 rfl) ?_
  refine lv_iload_n hx hb dX1_giveBack_28 rfl (lv_at hl 0 rfl) ?_
  refine lv_iconst (v := 1) hx hb dX1_giveBack_29 (by decide) ?_
  refine lv_iadd hx hb dX1_giveBack_30 ?_
  refine ztK_read C hP hS hl.1 (by decide) (Nat.le_of_ble_eq_true rfl) dX1_giveBack_31 (fun r8 u7 H locs hr8 hu7 hP hS => ?_)
  have hN_u7 : ZtG (w0) 4 u7 := by rw [hu7]; exact zt_Gle (by decide) (zt_G_read _ hN_u6)
  refine ztP_lv C hP hS dX1_giveBack_34 (fun u9 H locs hu9 hP hS => ?_)
  have hN_u9 : ZtG (w0) 4 u9 := by rw [hu9]; exact zt_Gs_lv _ hN_u7
  refine lv_aload_n hx hb dX1_giveBack_37 rfl (lv_at hl 1 rfl) ?_
  refine lv_aload_n hx hb dX1_giveBack_38 rfl (lv_at hl 1 rfl) ?_
  refine ztG_sp C hP dX1_giveBack_39 ?_
  refine lv_aload_n hx hb dX1_giveBack_42 rfl (lv_at hl 1 rfl) ?_
  refine ztG_top C hP dX1_giveBack_43 ?_
  refine ztK_write C hP hS hl.1 (by decide) (Nat.le_of_ble_eq_true rfl) (w0 := w0) (zt_Gle (by decide) hN_u9) dX1_giveBack_46 (fun u10 H locs hu10 hP hS => ?_)
  have hN_u10 : ZtG (w0) 5 u10 := by rw [hu10]; exact zt_Gle (by decide) (zt_G_write _ _ (by decide) hN_u9)
  refine lv_bipush (v := 9) hx hb dX1_giveBack_49 (by decide) ?_
  exact zt_iret C hr hlk hP hS (by subst hu10 hu9 hu7 hr8 hu6 hu4 hr5 hu3 hu1 hr2; exact rfl) dX1_giveBack_51
section
variable {p : Program} {l : Launch} {e : Env} {R : Room} {s : State} {m : MethodId} {args : Array Value} {below : List Frame} {meth : Method} {c : Code} {H : Heap} {locs : List Loc} {Q : State → Prop} {cc : ByteArray} {pc nL : Nat} {ls : Array Slot} {rest : List Value} {k : Ztk} {u : Zts} {H0 : Heap}
set_option maxHeartbeats 4000000 in
set_option maxRecDepth 100000 in
theorem ztK_giveBack (C : ZtC p s m args c cc nL k) (hP : ZtP k u H) (hS : va_S (ZtA k) H0 H locs) (hsz : ls.size = nL) (hR : 2 + 1 ≤ R.frames ∧ 8 + (2 + 11) + 40 * 2 ≤ R.locals) (hw : (rest.map fun v => v.category).sum ≤ 8) {w0 : Nat → Int32} (hN : ZtG w0 4 u) (hdg : decode cc pc = .ok (.invokevirtual 115, 3)) (kk : ∀ (r1 : Int32) (u1 : Zts) (H1 : Heap) (locs1 : List Loc), r1 = (zt_giveBack u ).1 → u1 = (zt_giveBack u ).2 → ZtP k u1 H1 → va_S (ZtA k) H0 H1 locs1 → W p l e R s m args below meth c H1 locs1 0 0 Q (F0 m (pc + 3) ls (.int r1 :: rest))) : W p l e R s m args below meth c H locs 0 0 Q (F0 m pc ls (.ref (zta_this k) :: rest)) :=
  zt_callV (y := yX1_giveBack) (n := 0) (As := []) C (ztM_giveBack l k C.2.2 u  hN) zwT_c_giveBack zwT_l_giveBack zwT_i_giveBack zwT_v_giveBack rfl (by decide +kernel) hP hS hsz hR hw rfl hdg (fun H1 locs1 hP1 hS1 => kk _ _ H1 locs1 rfl rfl hP1 hS1)
end
set_option maxHeartbeats 4000000 in
theorem zt_G_giveBack {w0 : Nat → Int32} {n : Nat} {u : Zts} (hn : n ≤ 4) (h : ZtG w0 n u) : ZtG w0 (n + 1) (zt_giveBack u ).2 := by
  have gu : ZtG w0 (n + 0) u := h
  obtain ⟨r2, hr2⟩ : ∃ z, z = (zt_read u (ztg_lv u)).1 := ⟨_, rfl⟩
  obtain ⟨u1, hu1⟩ : ∃ z, z = (zt_read u (ztg_lv u)).2 := ⟨_, rfl⟩
  have gu1 : ZtG w0 (n + 0) u1 := by rw [hu1]; exact zt_Gle (by omega) (zt_G_read _ gu)
  obtain ⟨u3, hu3⟩ : ∃ z, z = zts_sp u1 (ztg_lv u1) := ⟨_, rfl⟩
  have gu3 : ZtG w0 (n + 0) u3 := by rw [hu3]; exact zt_Gs_sp _ gu1
  obtain ⟨r5, hr5⟩ : ∃ z, z = (zt_read u3 r2).1 := ⟨_, rfl⟩
  obtain ⟨u4, hu4⟩ : ∃ z, z = (zt_read u3 r2).2 := ⟨_, rfl⟩
  have gu4 : ZtG w0 (n + 0) u4 := by rw [hu4]; exact zt_Gle (by omega) (zt_G_read _ gu3)
  obtain ⟨u6, hu6⟩ : ∃ z, z = zts_next u4 r5 := ⟨_, rfl⟩
  have gu6 : ZtG w0 (n + 0) u6 := by rw [hu6]; exact zt_Gs_next _ gu4
  obtain ⟨r8, hr8⟩ : ∃ z, z = (zt_read u6 (r2 + 1)).1 := ⟨_, rfl⟩
  obtain ⟨u7, hu7⟩ : ∃ z, z = (zt_read u6 (r2 + 1)).2 := ⟨_, rfl⟩
  have gu7 : ZtG w0 (n + 0) u7 := by rw [hu7]; exact zt_Gle (by omega) (zt_G_read _ gu6)
  obtain ⟨u9, hu9⟩ : ∃ z, z = zts_lv u7 r8 := ⟨_, rfl⟩
  have gu9 : ZtG w0 (n + 0) u9 := by rw [hu9]; exact zt_Gs_lv _ gu7
  obtain ⟨u10, hu10⟩ : ∃ z, z = zt_write u9 (ztg_sp u9) (ztg_top u9) := ⟨_, rfl⟩
  have gu10 : ZtG w0 (n + 1) u10 := by rw [hu10]; exact zt_Gle (by omega) (zt_G_write _ _ (by omega) gu9)
  have eq9 : zt_giveBack u = (9, u10) := by subst hu10 hu9 hu7 hr8 hu6 hu4 hr5 hu3 hu1 hr2; exact rfl
  rw [eq9]; exact zt_Gle (by omega) gu10

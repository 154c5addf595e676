def zt_call (u : Zts) : Int32 × Zts :=
  let r2 := (zt_pair u ((ztg_pc u) + 1)).1
  let u1 := (zt_pair u ((ztg_pc u) + 1)).2
  let r4 := (zt_read u1 ((ztg_cpp u) + r2)).1
  let u3 := (zt_read u1 ((ztg_cpp u) + r2)).2
  let r6 := (zt_pair u3 r4).1
  let u5 := (zt_pair u3 r4).2
  let r8 := (zt_pair u5 (r4 + 2)).1
  let u7 := (zt_pair u5 (r4 + 2)).2
  let u9 := zt_write u7 (((ztg_sp u7) - r6) + 1) (((ztg_sp u7) + r8) + 1)
  let u10 := zt_write u9 (((ztg_sp u7) + r8) + 1) ((ztg_pc u9) + 3)
  let u11 := zts_sp u10 ((((ztg_sp u7) + r8) + 1) + 1)
  let u12 := zt_write u11 (ztg_sp u11) (ztg_lv u11)
  let u13 := zts_lv u12 (((ztg_sp u7) - r6) + 1)
  let u14 := zts_top u13 (((ztg_sp u7) - r6) + 1)
  let u15 := zts_next u14 (r4 + 4)
  (23, u15)
set_option maxHeartbeats 4000000 in
set_option maxRecDepth 100000 in
theorem ztM_call (l : Launch) (k : Ztk) (Dk : ZtD k) (u : Zts) {w0 : Nat → Int32} (hN : ZtG w0 4 u) : Met l yX1_call (.code yX1_call cX1_call 6 (some .int) :: zwT) (zrm 2) (ZtB k [.ref (zta_this k)] u) (ZtQ k (some (.int (zt_call u ).1)) (zt_call u ).2) 0 0 (ZtA k) := by
  refine ztE_in (by decide) rfl (Nat.le_of_ble_eq_true rfl) Dk ?_
  intro p e s m below meth c ls C hr hlk hP hl
  have hx := C.1.1
  have hb := C.1.2.1
  have hl : lv_has ls 6 [(0, .ref (zta_this k))] := hl
  have hS : va_S (ZtA k) s.heap s.heap [] := va_S.rf
  refine lv_aload_n hx hb dX1_call_0 rfl (lv_at hl 0 rfl) ?_
  refine lv_aload_n hx hb dX1_call_1 rfl (lv_at hl 0 rfl) ?_
  refine ztG_cpp C hP dX1_call_2 ?_
  refine lv_aload_n hx hb dX1_call_5 rfl (lv_at hl 0 rfl) ?_
  refine lv_aload_n hx hb dX1_call_6 rfl (lv_at hl 0 rfl) ?_
  refine ztG_pc C hP dX1_call_7 ?_
  refine lv_iconst (v := 1) hx hb dX1_call_10 (by decide) ?_
  refine lv_iadd hx hb dX1_call_11 ?_
  refine ztK_pair C hP hS hl.1 (by decide) (Nat.le_of_ble_eq_true rfl) dX1_call_12 (fun r2 u1 H locs hr2 hu1 hP hS => ?_)
  have hN_u1 : ZtG (w0) 4 u1 := by rw [hu1]; exact zt_Gle (by decide) (zt_G_pair _ hN)
  refine lv_iadd hx hb dX1_call_15 ?_
  refine ztK_read C hP hS hl.1 (by decide) (Nat.le_of_ble_eq_true rfl) dX1_call_16 (fun r4 u3 H locs hr4 hu3 hP hS => ?_)
  have hN_u3 : ZtG (w0) 4 u3 := by rw [hu3]; exact zt_Gle (by decide) (zt_G_read _ hN_u1)
  refine lv_istore_n (lv' := [(1, .int r4), (0, .ref (zta_this k))]) hx hb dX1_call_19 rfl hl (by decide) rfl (fun ls hl => ?_)
  refine lv_aload_n hx hb dX1_call_20 rfl (lv_at hl 1 rfl) ?_
  refine lv_iload_n hx hb dX1_call_21 rfl (lv_at hl 0 rfl) ?_
  refine ztK_pair C hP hS hl.1 (by decide) (Nat.le_of_ble_eq_true rfl) dX1_call_22 (fun r6 u5 H locs hr6 hu5 hP hS => ?_)
  have hN_u5 : ZtG (w0) 4 u5 := by rw [hu5]; exact zt_Gle (by decide) (zt_G_pair _ hN_u3)
  refine lv_istore_n (lv' := [(2, .int r6), (1, .int r4), (0, .ref (zta_this k))]) hx hb dX1_call_25 rfl hl (by decide) rfl (fun ls hl => ?_)
  refine lv_aload_n hx hb dX1_call_26 rfl (lv_at hl 2 rfl) ?_
  refine lv_iload_n hx hb dX1_call_27 rfl (lv_at hl 1 rfl) ?_
  refine lv_iconst (v := 2) hx hb dX1_call_28 (by decide) ?_
  refine lv_iadd hx hb dX1_call_29 ?_
  refine ztK_pair C hP hS hl.1 (by decide) (Nat.le_of_ble_eq_true rfl) dX1_call_30 (fun r8 u7 H locs hr8 hu7 hP hS => ?_)
  have hN_u7 : ZtG (w0) 4 u7 := by rw [hu7]; exact zt_Gle (by decide) (zt_G_pair _ hN_u5)
  refine lv_istore_n (lv' := [(3, .int r8), (2, .int r6), (1, .int r4), (0, .ref (zta_this k))]) hx hb dX1_call_33 rfl hl (by decide) rfl (fun ls hl => ?_)
  refine lv_aload_n hx hb dX1_call_34 rfl (lv_at hl 3 rfl) ?_
  refine ztG_sp C hP dX1_call_35 ?_
  refine lv_iload_n hx hb dX1_call_38 rfl (lv_at hl 1 rfl) ?_
  refine lv_isub hx hb dX1_call_39 ?_
  refine lv_iconst (v := 1) hx hb dX1_call_40 (by decide) ?_
  refine lv_iadd hx hb dX1_call_41 ?_
  refine lv_istore (lv' := [(4, .int (((ztg_sp u7) - r6) + 1)), (3, .int r8), (2, .int r6), (1, .int r4), (0, .ref (zta_this k))]) hx hb dX1_call_42 hl (by decide) rfl (fun ls hl => ?_)
  refine lv_aload_n hx hb dX1_call_44 rfl (lv_at hl 4 rfl) ?_
  refine ztG_sp C hP dX1_call_45 ?_
  refine lv_iload_n hx hb dX1_call_48 rfl (lv_at hl 1 rfl) ?_
  refine lv_iadd hx hb dX1_call_49 ?_
  refine lv_iconst (v := 1) hx hb dX1_call_50 (by decide) ?_
  refine lv_iadd hx hb dX1_call_51 ?_
  refine lv_istore (lv' := [(5, .int (((ztg_sp u7) + r8) + 1)), (4, .int (((ztg_sp u7) - r6) + 1)), (3, .int r8), (2, .int r6), (1, .int r4), (0, .ref (zta_this k))]) hx hb dX1_call_52 hl (by decide) rfl (fun ls hl => ?_)
  refine lv_aload_n hx hb dX1_call_54 rfl (lv_at hl 5 rfl) ?_
  refine lv_iload hx hb dX1_call_55 (lv_at hl 1 rfl) ?_
  refine lv_iload hx hb dX1_call_57 (lv_at hl 0 rfl) ?_
  refine ztK_write C hP hS hl.1 (by decide) (Nat.le_of_ble_eq_true rfl) (w0 := w0) (zt_Gle (by decide) hN_u7) dX1_call_59 (fun u9 H locs hu9 hP hS => ?_)
  have hN_u9 : ZtG (w0) 5 u9 := by rw [hu9]; exact zt_Gle (by decide) (zt_G_write _ _ (by decide) hN_u7)
  refine lv_aload_n hx hb dX1_call_62 rfl (lv_at hl 5 rfl) ?_
  refine lv_iload hx hb dX1_call_63 (lv_at hl 0 rfl) ?_
  refine lv_aload_n hx hb dX1_call_65 rfl (lv_at hl 5 rfl) ?_
  refine ztG_pc C hP dX1_call_66 ?_
  refine lv_iconst (v := 3) hx hb dX1_call_69 (by decide) ?_
  refine lv_iadd hx hb dX1_call_70 ?_
  refine ztK_write C hP hS hl.1 (by decide) (Nat.le_of_ble_eq_true rfl) (w0 := w0) (zt_Gle (by decide) hN_u9) dX1_call_71 (fun u10 H locs hu10 hP hS => ?_)
  have hN_u10 : ZtG (w0) 6 u10 := by rw [hu10]; exact zt_Gle (by decide) (zt_G_write _ _ (by decide) hN_u9)
  refine lv_aload_n hx hb dX1_call_74 rfl (lv_at hl 5 rfl) ?_
  refine lv_iload hx hb dX1_call_75 (lv_at hl 0 rfl) ?_
  refine lv_iconst (v := 1) hx hb dX1_call_77 (by decide) ?_
  refine lv_iadd hx hb dX1_call_78 ?_
  refine ztP_sp C hP hS dX1_call_79 (fun u11 H locs hu11 hP hS => ?_)
  have hN_u11 : ZtG (w0) 6 u11 := by rw [hu11]; exact zt_Gs_sp _ hN_u10
  refine lv_aload_n hx hb dX1_call_82 rfl (lv_at hl 5 rfl) ?_
  refine lv_aload_n hx hb dX1_call_83 rfl (lv_at hl 5 rfl) ?_
  refine ztG_sp C hP dX1_call_84 ?_
  refine lv_aload_n hx hb dX1_call_87 rfl (lv_at hl 5 rfl) ?_
  refine ztG_lv C hP dX1_call_88 ?_
  refine ztK_write C hP hS hl.1 (by decide) (Nat.le_of_ble_eq_true rfl) (w0 := w0) (zt_Gle (by decide) hN_u11) dX1_call_91 (fun u12 H locs hu12 hP hS => ?_)
  have hN_u12 : ZtG (w0) 7 u12 := by rw [hu12]; exact zt_Gle (by decide) (zt_G_write _ _ (by decide) hN_u11)
  refine lv_aload_n hx hb dX1_call_94 rfl (lv_at hl 5 rfl) ?_
  refine lv_iload hx hb dX1_call_95 (lv_at hl 1 rfl) ?_
  refine ztP_lv C hP hS dX1_call_97 (fun u13 H locs hu13 hP hS => ?_)
  have hN_u13 : ZtG (w0) 7 u13 := by rw [hu13]; exact zt_Gs_lv _ hN_u12
  refine lv_aload_n hx hb dX1_call_100 rfl (lv_at hl 5 rfl) ?_
  refine lv_iload hx hb dX1_call_101 (lv_at hl 1 rfl) ?_
  refine ztP_top C hP hS dX1_call_103 (fun u14 H locs hu14 hP hS => ?_)
  have hN_u14 : ZtG (w0) 7 u14 := by rw [hu14]; exact zt_Gs_top _ hN_u13
  refine lv_aload_n hx hb dX1_call_106 rfl (lv_at hl 5 rfl) ?_
  refine lv_iload_n hx hb dX1_call_107 rfl (lv_at hl 4 rfl) ?_
  refine lv_iconst (v := 4) hx hb dX1_call_108 (by decide) ?_
  refine lv_iadd hx hb dX1_call_109 ?_
  refine ztP_next C hP hS dX1_call_110 (fun u15 H locs hu15 hP hS => ?_)
  have hN_u15 : ZtG (w0) 7 u15 := by rw [hu15]; exact zt_Gs_next _ hN_u14
  refine lv_bipush (v := 23) hx hb dX1_call_113 (by decide) ?_
  exact zt_iret C hr hlk hP hS (by subst hu15 hu14 hu13 hu12 hu11 hu10 hu9 hu7 hr8 hu5 hr6 hu3 hr4 hu1 hr2; exact rfl) dX1_call_115
section
variable {p : Program} {l : Launch} {e : Env} {R : Room} {s : State} {m : MethodId} {args : Array Value} {below : List Frame} {meth : Method} {c : Code} {H : Heap} {locs : List Loc} {Q : State → Prop} {cc : ByteArray} {pc nL : Nat} {ls : Array Slot} {rest : List Value} {k : Ztk} {u : Zts} {H0 : Heap}
set_option maxHeartbeats 4000000 in
set_option maxRecDepth 100000 in
theorem ztK_call (C : ZtC p s m args c cc nL k) (hP : ZtP k u H) (hS : va_S (ZtA k) H0 H locs) (hsz : ls.size = nL) (hR : 2 + 1 ≤ R.frames ∧ 8 + (6 + 11) + 40 * 2 ≤ R.locals) (hw : (rest.map fun v => v.category).sum ≤ 8) {w0 : Nat → Int32} (hN : ZtG w0 4 u) (hdg : decode cc pc = .ok (.invokevirtual 112, 3)) (kk : ∀ (r1 : Int32) (u1 : Zts) (H1 : Heap) (locs1 : List Loc), r1 = (zt_call u ).1 → u1 = (zt_call u ).2 → ZtP k u1 H1 → va_S (ZtA k) H0 H1 locs1 → W p l e R s m args below meth c H1 locs1 0 0 Q (F0 m (pc + 3) ls (.int r1 :: rest))) : W p l e R s m args below meth c H locs 0 0 Q (F0 m pc ls (.ref (zta_this k) :: rest)) :=
  zt_callV (y := yX1_call) (n := 0) (As := []) C (ztM_call l k C.2.2 u  hN) zwT_c_call zwT_l_call zwT_i_call zwT_v_call rfl (by decide +kernel) hP hS hsz hR hw rfl hdg (fun H1 locs1 hP1 hS1 => kk _ _ H1 locs1 rfl rfl hP1 hS1)
end
set_option maxHeartbeats 4000000 in
theorem zt_G_call {w0 : Nat → Int32} {n : Nat} {u : Zts} (hn : n ≤ 4) (h : ZtG w0 n u) : ZtG w0 (n + 3) (zt_call u ).2 := by
  have gu : ZtG w0 (n + 0) u := h
  obtain ⟨r2, hr2⟩ : ∃ z, z = (zt_pair u ((ztg_pc u) + 1)).1 := ⟨_, rfl⟩
  obtain ⟨u1, hu1⟩ : ∃ z, z = (zt_pair u ((ztg_pc u) + 1)).2 := ⟨_, rfl⟩
  have gu1 : ZtG w0 (n + 0) u1 := by rw [hu1]; exact zt_Gle (by omega) (zt_G_pair _ gu)
  obtain ⟨r4, hr4⟩ : ∃ z, z = (zt_read u1 ((ztg_cpp u) + r2)).1 := ⟨_, rfl⟩
  obtain ⟨u3, hu3⟩ : ∃ z, z = (zt_read u1 ((ztg_cpp u) + r2)).2 := ⟨_, rfl⟩
  have gu3 : ZtG w0 (n + 0) u3 := by rw [hu3]; exact zt_Gle (by omega) (zt_G_read _ gu1)
  obtain ⟨r6, hr6⟩ : ∃ z, z = (zt_pair u3 r4).1 := ⟨_, rfl⟩
  obtain ⟨u5, hu5⟩ : ∃ z, z = (zt_pair u3 r4).2 := ⟨_, rfl⟩
  have gu5 : ZtG w0 (n + 0) u5 := by rw [hu5]; exact zt_Gle (by omega) (zt_G_pair _ gu3)
  obtain ⟨r8, hr8⟩ : ∃ z, z = (zt_pair u5 (r4 + 2)).1 := ⟨_, rfl⟩
  obtain ⟨u7, hu7⟩ : ∃ z, z = (zt_pair u5 (r4 + 2)).2 := ⟨_, rfl⟩
  have gu7 : ZtG w0 (n + 0) u7 := by rw [hu7]; exact zt_Gle (by omega) (zt_G_pair _ gu5)
  obtain ⟨u9, hu9⟩ : ∃ z, z = zt_write u7 (((ztg_sp u7) - r6) + 1) (((ztg_sp u7) + r8) + 1) := ⟨_, rfl⟩
  have gu9 : ZtG w0 (n + 1) u9 := by rw [hu9]; exact zt_Gle (by omega) (zt_G_write _ _ (by omega) gu7)
  obtain ⟨u10, hu10⟩ : ∃ z, z = zt_write u9 (((ztg_sp u7) + r8) + 1) ((ztg_pc u9) + 3) := ⟨_, rfl⟩
  have gu10 : ZtG w0 (n + 2) u10 := by rw [hu10]; exact zt_Gle (by omega) (zt_G_write _ _ (by omega) gu9)
  obtain ⟨u11, hu11⟩ : ∃ z, z = zts_sp u10 ((((ztg_sp u7) + r8) + 1) + 1) := ⟨_, rfl⟩
  have gu11 : ZtG w0 (n + 2) u11 := by rw [hu11]; exact zt_Gs_sp _ gu10
  obtain ⟨u12, hu12⟩ : ∃ z, z = zt_write u11 (ztg_sp u11) (ztg_lv u11) := ⟨_, rfl⟩
  have gu12 : ZtG w0 (n + 3) u12 := by rw [hu12]; exact zt_Gle (by omega) (zt_G_write _ _ (by omega) gu11)
  obtain ⟨u13, hu13⟩ : ∃ z, z = zts_lv u12 (((ztg_sp u7) - r6) + 1) := ⟨_, rfl⟩
  have gu13 : ZtG w0 (n + 3) u13 := by rw [hu13]; exact zt_Gs_lv _ gu12
  obtain ⟨u14, hu14⟩ : ∃ z, z = zts_top u13 (((ztg_sp u7) - r6) + 1) := ⟨_, rfl⟩
  have gu14 : ZtG w0 (n + 3) u14 := by rw [hu14]; exact zt_Gs_top _ gu13
  obtain ⟨u15, hu15⟩ : ∃ z, z = zts_next u14 (r4 + 4) := ⟨_, rfl⟩
  have gu15 : ZtG w0 (n + 3) u15 := by rw [hu15]; exact zt_Gs_next _ gu14
  have eq9 : zt_call u = (23, u15) := by subst hu15 hu14 hu13 hu12 hu11 hu10 hu9 hu7 hr8 hu5 hr6 hu3 hr4 hu1 hr2; exact rfl
  rw [eq9]; exact zt_Gle (by omega) gu15

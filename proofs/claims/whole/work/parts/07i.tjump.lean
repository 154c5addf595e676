def zt_jump (u : Zts) (a1 a2 a3 : Int32) : Int32 × Zts :=
  if a1 = 0 then (
    let u2 := zts_next u ((ztg_pc u) + 3)
    if a1 = 0 then (
      (a3, u2))
    else (
      (a2, u2)))
  else (
    let r5 := (zt_pair u ((ztg_pc u) + 1)).1
    let u4 := (zt_pair u ((ztg_pc u) + 1)).2
    let u6 := zts_next u4 ((ztg_pc u) + (zt_signed r5 16))
    if a1 = 0 then (
      (a3, u6))
    else (
      (a2, u6)))
set_option maxHeartbeats 4000000 in
set_option maxRecDepth 100000 in
theorem ztM_jump (l : Launch) (k : Ztk) (Dk : ZtD k) (u : Zts) (a1 a2 a3 : Int32) : Met l yX1_jump (.code yX1_jump cX1_jump 4 (some .int) :: zwT) (zrm 2) (ZtB k [.ref (zta_this k), .int a1, .int a2, .int a3] u) (ZtQ k (some (.int (zt_jump u a1 a2 a3).1)) (zt_jump u a1 a2 a3).2) 0 0 (ZtA k) := by
  refine ztE_in (by decide) rfl (Nat.le_of_ble_eq_true rfl) Dk ?_
  intro p e s m below meth c ls C hr hlk hP hl
  have hx := C.1.1
  have hb := C.1.2.1
  have hl : lv_has ls 4 [(0, .ref (zta_this k)), (1, .int a1), (2, .int a2), (3, .int a3)] := hl
  have hS : va_S (ZtA k) s.heap s.heap [] := va_S.rf
  refine lv_aload_n hx hb dX1_jump_0 rfl (lv_at hl 0 rfl) ?_
  refine lv_iload_n hx hb dX1_jump_1 rfl (lv_at hl 1 rfl) ?_
  refine lv_if_eq (tgt := 28) hx hb dX1_jump_2 (by decide) (fun c1 => ?_) (fun c1 => ?_)
  · refine lv_aload_n hx hb dX1_jump_28 rfl (lv_at hl 0 rfl) ?_
    refine ztG_pc C hP dX1_jump_29 ?_
    refine lv_iconst (v := 3) hx hb dX1_jump_32 (by decide) ?_
    refine lv_iadd hx hb dX1_jump_33 ?_
    refine ztP_next C hP hS dX1_jump_34 (fun u2 H locs hu2 hP hS => ?_)
    refine lv_iload_n hx hb dX1_jump_37 rfl (lv_at hl 1 rfl) ?_
    refine lv_if_eq (tgt := 45) hx hb dX1_jump_38 (by decide) (fun c3 => ?_) (fun c3 => ?_)
    · refine lv_iload_n hx hb dX1_jump_45 rfl (lv_at hl 3 rfl) ?_
      exact zt_iret C hr hlk hP hS (by subst hu2; first | (unfold zt_jump; rw [if_pos c1, if_pos c3]; done) | exact (if_pos c1).trans ((if_pos c3).trans (rfl))) dX1_jump_46
    · refine lv_iload_n hx hb dX1_jump_41 rfl (lv_at hl 2 rfl) ?_
      refine lv_goto (tgt := 46) hx hb dX1_jump_42 (by decide) ?_
      exact zt_iret C hr hlk hP hS (by subst hu2; first | (unfold zt_jump; rw [if_pos c1, if_neg c3]; done) | exact (if_pos c1).trans ((if_neg c3).trans (rfl))) dX1_jump_46
  · refine lv_aload_n hx hb dX1_jump_5 rfl (lv_at hl 0 rfl) ?_
    refine ztG_pc C hP dX1_jump_6 ?_
    refine lv_aload_n hx hb dX1_jump_9 rfl (lv_at hl 0 rfl) ?_
    refine lv_aload_n hx hb dX1_jump_10 rfl (lv_at hl 0 rfl) ?_
    refine ztG_pc C hP dX1_jump_11 ?_
    refine lv_iconst (v := 1) hx hb dX1_jump_14 (by decide) ?_
    refine lv_iadd hx hb dX1_jump_15 ?_
    refine ztK_pair C hP hS hl.1 (by decide) (Nat.le_of_ble_eq_true rfl) dX1_jump_16 (fun r5 u4 H locs hr5 hu4 hP hS => ?_)
    refine lv_bipush (v := 16) hx hb dX1_jump_19 (by decide) ?_
    refine ztK_signed C hl.1 (by decide) (Nat.le_of_ble_eq_true rfl) dX1_jump_21 ?_
    refine lv_iadd hx hb dX1_jump_24 ?_
    refine lv_goto (tgt := 34) hx hb dX1_jump_25 (by decide) ?_
    refine ztP_next C hP hS dX1_jump_34 (fun u6 H locs hu6 hP hS => ?_)
    refine lv_iload_n hx hb dX1_jump_37 rfl (lv_at hl 1 rfl) ?_
    refine lv_if_eq (tgt := 45) hx hb dX1_jump_38 (by decide) (fun c7 => ?_) (fun c7 => ?_)
    · refine lv_iload_n hx hb dX1_jump_45 rfl (lv_at hl 3 rfl) ?_
      exact zt_iret C hr hlk hP hS (by subst hu6 hu4 hr5; first | (unfold zt_jump; rw [if_neg c1, if_pos c7]; done) | exact (if_neg c1).trans ((if_pos c7).trans (rfl))) dX1_jump_46
    · refine lv_iload_n hx hb dX1_jump_41 rfl (lv_at hl 2 rfl) ?_
      refine lv_goto (tgt := 46) hx hb dX1_jump_42 (by decide) ?_
      exact zt_iret C hr hlk hP hS (by subst hu6 hu4 hr5; first | (unfold zt_jump; rw [if_neg c1, if_neg c7]; done) | exact (if_neg c1).trans ((if_neg c7).trans (rfl))) dX1_jump_46
section
variable {p : Program} {l : Launch} {e : Env} {R : Room} {s : State} {m : MethodId} {args : Array Value} {below : List Frame} {meth : Method} {c : Code} {H : Heap} {locs : List Loc} {Q : State → Prop} {cc : ByteArray} {pc nL : Nat} {ls : Array Slot} {rest : List Value} {k : Ztk} {u : Zts} {H0 : Heap}
set_option maxHeartbeats 4000000 in
set_option maxRecDepth 100000 in
theorem ztK_jump {a1 a2 a3 : Int32} (C : ZtC p s m args c cc nL k) (hP : ZtP k u H) (hS : va_S (ZtA k) H0 H locs) (hsz : ls.size = nL) (hR : 2 + 1 ≤ R.frames ∧ 8 + (4 + 11) + 40 * 2 ≤ R.locals) (hw : (rest.map fun v => v.category).sum ≤ 8) (hdg : decode cc pc = .ok (.invokevirtual 92, 3)) (kk : ∀ (r1 : Int32) (u1 : Zts) (H1 : Heap) (locs1 : List Loc), r1 = (zt_jump u a1 a2 a3).1 → u1 = (zt_jump u a1 a2 a3).2 → ZtP k u1 H1 → va_S (ZtA k) H0 H1 locs1 → W p l e R s m args below meth c H1 locs1 0 0 Q (F0 m (pc + 3) ls (.int r1 :: rest))) : W p l e R s m args below meth c H locs 0 0 Q (F0 m pc ls (.int a3 :: .int a2 :: .int a1 :: .ref (zta_this k) :: rest)) :=
  zt_callV (y := yX1_jump) (n := 3) (As := [.int a1, .int a2, .int a3]) C (ztM_jump l k C.2.2 u a1 a2 a3 ) zwT_c_jump zwT_l_jump zwT_i_jump zwT_v_jump rfl (by decide +kernel) hP hS hsz hR hw rfl hdg (fun H1 locs1 hP1 hS1 => kk _ _ H1 locs1 rfl rfl hP1 hS1)
end
set_option maxHeartbeats 4000000 in
theorem zt_G_jump {w0 : Nat → Int32} {n : Nat} {u : Zts} (a1 a2 a3 : Int32) (h : ZtG w0 n u) : ZtG w0 (n + 0) (zt_jump u a1 a2 a3).2 := by
  have gu : ZtG w0 (n + 0) u := h
  by_cases e0 : a1 = 0
  · obtain ⟨u2, hu2⟩ : ∃ z, z = zts_next u ((ztg_pc u) + 3) := ⟨_, rfl⟩
    have gu2 : ZtG w0 (n + 0) u2 := by rw [hu2]; exact zt_Gs_next _ gu
    by_cases e3 : a1 = 0
    · have eq9 : zt_jump u a1 a2 a3 = (a3, u2) := by subst hu2; first | (unfold zt_jump; rw [if_pos e0, if_pos e3]; done) | exact (if_pos e0).trans ((if_pos e3).trans (rfl))
      rw [eq9]; exact zt_Gle (by omega) gu2
    · have eq9 : zt_jump u a1 a2 a3 = (a2, u2) := by subst hu2; first | (unfold zt_jump; rw [if_pos e0, if_neg e3]; done) | exact (if_pos e0).trans ((if_neg e3).trans (rfl))
      rw [eq9]; exact zt_Gle (by omega) gu2
  · obtain ⟨r5, hr5⟩ : ∃ z, z = (zt_pair u ((ztg_pc u) + 1)).1 := ⟨_, rfl⟩
    obtain ⟨u4, hu4⟩ : ∃ z, z = (zt_pair u ((ztg_pc u) + 1)).2 := ⟨_, rfl⟩
    have gu4 : ZtG w0 (n + 0) u4 := by rw [hu4]; exact zt_Gle (by omega) (zt_G_pair _ gu)
    obtain ⟨u6, hu6⟩ : ∃ z, z = zts_next u4 ((ztg_pc u) + (zt_signed r5 16)) := ⟨_, rfl⟩
    have gu6 : ZtG w0 (n + 0) u6 := by rw [hu6]; exact zt_Gs_next _ gu4
    by_cases e13 : a1 = 0
    · have eq9 : zt_jump u a1 a2 a3 = (a3, u6) := by subst hu6 hu4 hr5; first | (unfold zt_jump; rw [if_neg e0, if_pos e13]; done) | exact (if_neg e0).trans ((if_pos e13).trans (rfl))
      rw [eq9]; exact zt_Gle (by omega) gu6
    · have eq9 : zt_jump u a1 a2 a3 = (a2, u6) := by subst hu6 hu4 hr5; first | (unfold zt_jump; rw [if_neg e0, if_neg e13]; done) | exact (if_neg e0).trans ((if_neg e13).trans (rfl))
      rw [eq9]; exact zt_Gle (by omega) gu6

def zt_reckon (u : Zts) (a1 : Int32) : Int32 × Zts :=
  let u1 := zts_sp u ((ztg_sp u) - 1)
  let r3 := (zt_read u1 (ztg_sp u1)).1
  let u2 := (zt_read u1 (ztg_sp u1)).2
  if a1 = 96 then (
    let u13 := zts_top u2 (r3 + (ztg_top u2))
    let u14 := zt_write u13 (ztg_sp u13) (ztg_top u13)
    (4, u14))
  else (
    if a1 = 100 then (
      let u11 := zts_top u2 (r3 - (ztg_top u2))
      let u12 := zt_write u11 (ztg_sp u11) (ztg_top u11)
      (4, u12))
    else (
      if a1 = 126 then (
        let u9 := zts_top u2 (r3 &&& (ztg_top u2))
        let u10 := zt_write u9 (ztg_sp u9) (ztg_top u9)
        (4, u10))
      else (
        let u7 := zts_top u2 (r3 ||| (ztg_top u2))
        let u8 := zt_write u7 (ztg_sp u7) (ztg_top u7)
        (4, u8))))
set_option maxHeartbeats 4000000 in
set_option maxRecDepth 100000 in
theorem ztM_reckon (l : Launch) (k : Ztk) (Dk : ZtD k) (u : Zts) (a1 : Int32) {w0 : Nat → Int32} (hN : ZtG w0 4 u) : Met l yX1_reckon (.code yX1_reckon cX1_reckon 3 (some .int) :: zwT) (zrm 2) (ZtB k [.ref (zta_this k), .int a1] u) (ZtQ k (some (.int (zt_reckon u a1).1)) (zt_reckon u a1).2) 0 0 (ZtA k) := by
  refine ztE_in (by decide) rfl (Nat.le_of_ble_eq_true rfl) Dk ?_
  intro p e s m below meth c ls C hr hlk hP hl
  have hx := C.1.1
  have hb := C.1.2.1
  have hl : lv_has ls 3 [(0, .ref (zta_this k)), (1, .int a1)] := hl
  have hS : va_S (ZtA k) s.heap s.heap [] := va_S.rf
  refine lv_aload_n hx hb dX1_reckon_0 rfl (lv_at hl 0 rfl) ?_
  refine lv_dup hx hb dX1_reckon_1 rfl ?_
  refine ztG_sp C hP dX1_reckon_2 ?_
  refine lv_iconst (v := 1) hx hb dX1_reckon_5 (by decide) ?_
  refine lv_isub hx hb dX1_reckon_6 ?_
  refine ztP_sp C hP hS dX1_reckon_7 (fun u1 H locs hu1 hP hS => ?_)
  have hN_u1 : ZtG (w0) 4 u1 := by rw [hu1]; exact zt_Gs_sp _ hN
  refine lv_aload_n hx hb dX1_reckon_10 rfl (lv_at hl 0 rfl) ?_
  refine lv_aload_n hx hb dX1_reckon_11 rfl (lv_at hl 0 rfl) ?_
  refine ztG_sp C hP dX1_reckon_12 ?_
  refine ztK_read C hP hS hl.1 (by decide) (Nat.le_of_ble_eq_true rfl) dX1_reckon_15 (fun r3 u2 H locs hr3 hu2 hP hS => ?_)
  have hN_u2 : ZtG (w0) 4 u2 := by rw [hu2]; exact zt_Gle (by decide) (zt_G_read _ hN_u1)
  refine lv_istore_n (lv' := [(2, .int r3), (0, .ref (zta_this k)), (1, .int a1)]) hx hb dX1_reckon_18 rfl hl (by decide) rfl (fun ls hl => ?_)
  refine lv_aload_n hx hb dX1_reckon_19 rfl (lv_at hl 1 rfl) ?_
  refine lv_iload_n hx hb dX1_reckon_20 rfl (lv_at hl 2 rfl) ?_
  refine lv_bipush (v := 96) hx hb dX1_reckon_21 (by decide) ?_
  refine lv_icmp_ne (tgt := 35) hx hb dX1_reckon_23 (by decide) (fun c4 => ?_) (fun c4 => ?_)
  · refine lv_iload_n hx hb dX1_reckon_35 rfl (lv_at hl 2 rfl) ?_
    refine lv_bipush (v := 100) hx hb dX1_reckon_36 (by decide) ?_
    refine lv_icmp_ne (tgt := 50) hx hb dX1_reckon_38 (by decide) (fun c5 => ?_) (fun c5 => ?_)
    · refine lv_iload_n hx hb dX1_reckon_50 rfl (lv_at hl 2 rfl) ?_
      refine lv_bipush (v := 126) hx hb dX1_reckon_51 (by decide) ?_
      refine lv_icmp_ne (tgt := 65) hx hb dX1_reckon_53 (by decide) (fun c6 => ?_) (fun c6 => ?_)
      · refine lv_iload_n hx hb dX1_reckon_65 rfl (lv_at hl 0 rfl) ?_
        refine lv_aload_n hx hb dX1_reckon_66 rfl (lv_at hl 1 rfl) ?_
        refine ztG_top C hP dX1_reckon_67 ?_
        refine lv_ior hx hb dX1_reckon_70 ?_
        refine ztP_top C hP hS dX1_reckon_71 (fun u7 H locs hu7 hP hS => ?_)
        have hN_u7 : ZtG (w0) 4 u7 := by rw [hu7]; exact zt_Gs_top _ hN_u2
        refine lv_aload_n hx hb dX1_reckon_74 rfl (lv_at hl 1 rfl) ?_
        refine lv_aload_n hx hb dX1_reckon_75 rfl (lv_at hl 1 rfl) ?_
        refine ztG_sp C hP dX1_reckon_76 ?_
        refine lv_aload_n hx hb dX1_reckon_79 rfl (lv_at hl 1 rfl) ?_
        refine ztG_top C hP dX1_reckon_80 ?_
        refine ztK_write C hP hS hl.1 (by decide) (Nat.le_of_ble_eq_true rfl) (w0 := w0) (zt_Gle (by decide) hN_u7) dX1_reckon_83 (fun u8 H locs hu8 hP hS => ?_)
        have hN_u8 : ZtG (w0) 5 u8 := by rw [hu8]; exact zt_Gle (by decide) (zt_G_write _ _ (by decide) hN_u7)
        refine lv_iconst (v := 4) hx hb dX1_reckon_86 (by decide) ?_
        exact zt_iret C hr hlk hP hS (by subst hu8 hu7 hu2 hr3 hu1; first | (unfold zt_reckon; rw [if_neg c4, if_neg c5, if_neg c6]; done) | exact (if_neg c4).trans ((if_neg c5).trans ((if_neg c6).trans (rfl)))) dX1_reckon_87
      · refine lv_iload_n hx hb dX1_reckon_56 rfl (lv_at hl 0 rfl) ?_
        refine lv_aload_n hx hb dX1_reckon_57 rfl (lv_at hl 1 rfl) ?_
        refine ztG_top C hP dX1_reckon_58 ?_
        refine lv_iand hx hb dX1_reckon_61 ?_
        refine lv_goto (tgt := 71) hx hb dX1_reckon_62 (by decide) ?_
        refine ztP_top C hP hS dX1_reckon_71 (fun u9 H locs hu9 hP hS => ?_)
        have hN_u9 : ZtG (w0) 4 u9 := by rw [hu9]; exact zt_Gs_top _ hN_u2
        refine lv_aload_n hx hb dX1_reckon_74 rfl (lv_at hl 1 rfl) ?_
        refine lv_aload_n hx hb dX1_reckon_75 rfl (lv_at hl 1 rfl) ?_
        refine ztG_sp C hP dX1_reckon_76 ?_
        refine lv_aload_n hx hb dX1_reckon_79 rfl (lv_at hl 1 rfl) ?_
        refine ztG_top C hP dX1_reckon_80 ?_
        refine ztK_write C hP hS hl.1 (by decide) (Nat.le_of_ble_eq_true rfl) (w0 := w0) (zt_Gle (by decide) hN_u9) dX1_reckon_83 (fun u10 H locs hu10 hP hS => ?_)
        have hN_u10 : ZtG (w0) 5 u10 := by rw [hu10]; exact zt_Gle (by decide) (zt_G_write _ _ (by decide) hN_u9)
        refine lv_iconst (v := 4) hx hb dX1_reckon_86 (by decide) ?_
        exact zt_iret C hr hlk hP hS (by subst hu10 hu9 hu2 hr3 hu1; first | (unfold zt_reckon; rw [if_neg c4, if_neg c5, if_pos c6]; done) | exact (if_neg c4).trans ((if_neg c5).trans ((if_pos c6).trans (rfl)))) dX1_reckon_87
    · refine lv_iload_n hx hb dX1_reckon_41 rfl (lv_at hl 0 rfl) ?_
      refine lv_aload_n hx hb dX1_reckon_42 rfl (lv_at hl 1 rfl) ?_
      refine ztG_top C hP dX1_reckon_43 ?_
      refine lv_isub hx hb dX1_reckon_46 ?_
      refine lv_goto (tgt := 71) hx hb dX1_reckon_47 (by decide) ?_
      refine ztP_top C hP hS dX1_reckon_71 (fun u11 H locs hu11 hP hS => ?_)
      have hN_u11 : ZtG (w0) 4 u11 := by rw [hu11]; exact zt_Gs_top _ hN_u2
      refine lv_aload_n hx hb dX1_reckon_74 rfl (lv_at hl 1 rfl) ?_
      refine lv_aload_n hx hb dX1_reckon_75 rfl (lv_at hl 1 rfl) ?_
      refine ztG_sp C hP dX1_reckon_76 ?_
      refine lv_aload_n hx hb dX1_reckon_79 rfl (lv_at hl 1 rfl) ?_
      refine ztG_top C hP dX1_reckon_80 ?_
      refine ztK_write C hP hS hl.1 (by decide) (Nat.le_of_ble_eq_true rfl) (w0 := w0) (zt_Gle (by decide) hN_u11) dX1_reckon_83 (fun u12 H locs hu12 hP hS => ?_)
      have hN_u12 : ZtG (w0) 5 u12 := by rw [hu12]; exact zt_Gle (by decide) (zt_G_write _ _ (by decide) hN_u11)
      refine lv_iconst (v := 4) hx hb dX1_reckon_86 (by decide) ?_
      exact zt_iret C hr hlk hP hS (by subst hu12 hu11 hu2 hr3 hu1; first | (unfold zt_reckon; rw [if_neg c4, if_pos c5]; done) | exact (if_neg c4).trans ((if_pos c5).trans (rfl))) dX1_reckon_87
  · refine lv_iload_n hx hb dX1_reckon_26 rfl (lv_at hl 0 rfl) ?_
    refine lv_aload_n hx hb dX1_reckon_27 rfl (lv_at hl 1 rfl) ?_
    refine ztG_top C hP dX1_reckon_28 ?_
    refine lv_iadd hx hb dX1_reckon_31 ?_
    refine lv_goto (tgt := 71) hx hb dX1_reckon_32 (by decide) ?_
    refine ztP_top C hP hS dX1_reckon_71 (fun u13 H locs hu13 hP hS => ?_)
    have hN_u13 : ZtG (w0) 4 u13 := by rw [hu13]; exact zt_Gs_top _ hN_u2
    refine lv_aload_n hx hb dX1_reckon_74 rfl (lv_at hl 1 rfl) ?_
    refine lv_aload_n hx hb dX1_reckon_75 rfl (lv_at hl 1 rfl) ?_
    refine ztG_sp C hP dX1_reckon_76 ?_
    refine lv_aload_n hx hb dX1_reckon_79 rfl (lv_at hl 1 rfl) ?_
    refine ztG_top C hP dX1_reckon_80 ?_
    refine ztK_write C hP hS hl.1 (by decide) (Nat.le_of_ble_eq_true rfl) (w0 := w0) (zt_Gle (by decide) hN_u13) dX1_reckon_83 (fun u14 H locs hu14 hP hS => ?_)
    have hN_u14 : ZtG (w0) 5 u14 := by rw [hu14]; exact zt_Gle (by decide) (zt_G_write _ _ (by decide) hN_u13)
    refine lv_iconst (v := 4) hx hb dX1_reckon_86 (by decide) ?_
    exact zt_iret C hr hlk hP hS (by subst hu14 hu13 hu2 hr3 hu1; first | (unfold zt_reckon; rw [if_pos c4]; done) | exact (if_pos c4).trans (rfl)) dX1_reckon_87
section
variable {p : Program} {l : Launch} {e : Env} {R : Room} {s : State} {m : MethodId} {args : Array Value} {below : List Frame} {meth : Method} {c : Code} {H : Heap} {locs : List Loc} {Q : State → Prop} {cc : ByteArray} {pc nL : Nat} {ls : Array Slot} {rest : List Value} {k : Ztk} {u : Zts} {H0 : Heap}
set_option maxHeartbeats 4000000 in
set_option maxRecDepth 100000 in
theorem ztK_reckon {a1 : Int32} (C : ZtC p s m args c cc nL k) (hP : ZtP k u H) (hS : va_S (ZtA k) H0 H locs) (hsz : ls.size = nL) (hR : 2 + 1 ≤ R.frames ∧ 8 + (3 + 11) + 40 * 2 ≤ R.locals) (hw : (rest.map fun v => v.category).sum ≤ 8) {w0 : Nat → Int32} (hN : ZtG w0 4 u) (hdg : decode cc pc = .ok (.invokevirtual 96, 3)) (kk : ∀ (r1 : Int32) (u1 : Zts) (H1 : Heap) (locs1 : List Loc), r1 = (zt_reckon u a1).1 → u1 = (zt_reckon u a1).2 → ZtP k u1 H1 → va_S (ZtA k) H0 H1 locs1 → W p l e R s m args below meth c H1 locs1 0 0 Q (F0 m (pc + 3) ls (.int r1 :: rest))) : W p l e R s m args below meth c H locs 0 0 Q (F0 m pc ls (.int a1 :: .ref (zta_this k) :: rest)) :=
  zt_callV (y := yX1_reckon) (n := 1) (As := [.int a1]) C (ztM_reckon l k C.2.2 u a1 hN) zwT_c_reckon zwT_l_reckon zwT_i_reckon zwT_v_reckon rfl (by decide +kernel) hP hS hsz hR hw rfl hdg (fun H1 locs1 hP1 hS1 => kk _ _ H1 locs1 rfl rfl hP1 hS1)
end
set_option maxHeartbeats 4000000 in
theorem zt_G_reckon {w0 : Nat → Int32} {n : Nat} {u : Zts} (a1 : Int32) (hn : n ≤ 4) (h : ZtG w0 n u) : ZtG w0 (n + 1) (zt_reckon u a1).2 := by
  have gu : ZtG w0 (n + 0) u := h
  obtain ⟨u1, hu1⟩ : ∃ z, z = zts_sp u ((ztg_sp u) - 1) := ⟨_, rfl⟩
  have gu1 : ZtG w0 (n + 0) u1 := by rw [hu1]; exact zt_Gs_sp _ gu
  obtain ⟨r3, hr3⟩ : ∃ z, z = (zt_read u1 (ztg_sp u1)).1 := ⟨_, rfl⟩
  obtain ⟨u2, hu2⟩ : ∃ z, z = (zt_read u1 (ztg_sp u1)).2 := ⟨_, rfl⟩
  have gu2 : ZtG w0 (n + 0) u2 := by rw [hu2]; exact zt_Gle (by omega) (zt_G_read _ gu1)
  by_cases e5 : a1 = 96
  · obtain ⟨u13, hu13⟩ : ∃ z, z = zts_top u2 (r3 + (ztg_top u2)) := ⟨_, rfl⟩
    have gu13 : ZtG w0 (n + 0) u13 := by rw [hu13]; exact zt_Gs_top _ gu2
    obtain ⟨u14, hu14⟩ : ∃ z, z = zt_write u13 (ztg_sp u13) (ztg_top u13) := ⟨_, rfl⟩
    have gu14 : ZtG w0 (n + 1) u14 := by rw [hu14]; exact zt_Gle (by omega) (zt_G_write _ _ (by omega) gu13)
    have eq9 : zt_reckon u a1 = (4, u14) := by subst hu14 hu13 hu2 hr3 hu1; first | (unfold zt_reckon; rw [if_pos e5]; done) | exact (if_pos e5).trans (rfl)
    rw [eq9]; exact zt_Gle (by omega) gu14
  · by_cases e12 : a1 = 100
    · obtain ⟨u11, hu11⟩ : ∃ z, z = zts_top u2 (r3 - (ztg_top u2)) := ⟨_, rfl⟩
      have gu11 : ZtG w0 (n + 0) u11 := by rw [hu11]; exact zt_Gs_top _ gu2
      obtain ⟨u12, hu12⟩ : ∃ z, z = zt_write u11 (ztg_sp u11) (ztg_top u11) := ⟨_, rfl⟩
      have gu12 : ZtG w0 (n + 1) u12 := by rw [hu12]; exact zt_Gle (by omega) (zt_G_write _ _ (by omega) gu11)
      have eq9 : zt_reckon u a1 = (4, u12) := by subst hu12 hu11 hu2 hr3 hu1; first | (unfold zt_reckon; rw [if_neg e5, if_pos e12]; done) | exact (if_neg e5).trans ((if_pos e12).trans (rfl))
      rw [eq9]; exact zt_Gle (by omega) gu12
    · by_cases e19 : a1 = 126
      · obtain ⟨u9, hu9⟩ : ∃ z, z = zts_top u2 (r3 &&& (ztg_top u2)) := ⟨_, rfl⟩
        have gu9 : ZtG w0 (n + 0) u9 := by rw [hu9]; exact zt_Gs_top _ gu2
        obtain ⟨u10, hu10⟩ : ∃ z, z = zt_write u9 (ztg_sp u9) (ztg_top u9) := ⟨_, rfl⟩
        have gu10 : ZtG w0 (n + 1) u10 := by rw [hu10]; exact zt_Gle (by omega) (zt_G_write _ _ (by omega) gu9)
        have eq9 : zt_reckon u a1 = (4, u10) := by subst hu10 hu9 hu2 hr3 hu1; first | (unfold zt_reckon; rw [if_neg e5, if_neg e12, if_pos e19]; done) | exact (if_neg e5).trans ((if_neg e12).trans ((if_pos e19).trans (rfl)))
        rw [eq9]; exact zt_Gle (by omega) gu10
      · obtain ⟨u7, hu7⟩ : ∃ z, z = zts_top u2 (r3 ||| (ztg_top u2)) := ⟨_, rfl⟩
        have gu7 : ZtG w0 (n + 0) u7 := by rw [hu7]; exact zt_Gs_top _ gu2
        obtain ⟨u8, hu8⟩ : ∃ z, z = zt_write u7 (ztg_sp u7) (ztg_top u7) := ⟨_, rfl⟩
        have gu8 : ZtG w0 (n + 1) u8 := by rw [hu8]; exact zt_Gle (by omega) (zt_G_write _ _ (by omega) gu7)
        have eq9 : zt_reckon u a1 = (4, u8) := by subst hu8 hu7 hu2 hr3 hu1; first | (unfold zt_reckon; rw [if_neg e5, if_neg e12, if_neg e19]; done) | exact (if_neg e5).trans ((if_neg e12).trans ((if_neg e19).trans (rfl)))
        rw [eq9]; exact zt_Gle (by omega) gu8

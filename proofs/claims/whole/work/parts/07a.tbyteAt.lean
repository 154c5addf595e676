def zt_byteAt (u : Zts) (a1 : Int32) : Int32 × Zts :=
  if a1 < 0 then (
    if (ztg_amiss u) = 0 then (
      let u4 := zts_amiss u 1
      (0, u4))
    else (
      let u3 := zts_amiss u 1
      (0, u3)))
  else (
    if 512 ≤ a1 then (
      if (ztg_amiss u) = 0 then (
        let u8 := zts_amiss u 1
        (0, u8))
      else (
        let u7 := zts_amiss u 1
        (0, u7)))
    else (
      if (ztg_amiss u) = 0 then (
        let u11 := zts_amiss u 0
        (ztg_bytes u11 a1.toNatClampNeg, u11))
      else (
        let u10 := zts_amiss u 1
        (ztg_bytes u10 a1.toNatClampNeg, u10))))
set_option maxHeartbeats 4000000 in
set_option maxRecDepth 100000 in
theorem ztM_byteAt (l : Launch) (k : Ztk) (Dk : ZtD k) (u : Zts) (a1 : Int32) : Met l yX1_byteAt (.code yX1_byteAt cX1_byteAt 3 (some .int) :: zwT) (zrm 0) (ZtB k [.ref (zta_this k), .int a1] u) (ZtQ k (some (.int (zt_byteAt u a1).1)) (zt_byteAt u a1).2) 0 0 (ZtA k) := by
  refine ztE_in (by decide) rfl (Nat.le_of_ble_eq_true rfl) Dk ?_
  intro p e s m below meth c ls C hr hlk hP hl
  have hx := C.1.1
  have hb := C.1.2.1
  have hl : lv_has ls 3 [(0, .ref (zta_this k)), (1, .int a1)] := hl
  have hS : va_S (ZtA k) s.heap s.heap [] := va_S.rf
  refine lv_iload_n hx hb dX1_byteAt_0 rfl (lv_at hl 1 rfl) ?_
  refine lv_if_lt (tgt := 15) hx hb dX1_byteAt_1 (by decide) (fun c1 => ?_) (fun c1 => ?_)
  · refine lv_iconst (v := 0) hx hb dX1_byteAt_15 (by decide) ?_
    refine lv_istore_n (lv' := [(2, .int 0), (0, .ref (zta_this k)), (1, .int a1)]) hx hb dX1_byteAt_16 rfl hl (by decide) rfl (fun ls hl => ?_)
    refine lv_aload_n hx hb dX1_byteAt_17 rfl (lv_at hl 1 rfl) ?_
    refine lv_aload_n hx hb dX1_byteAt_18 rfl (lv_at hl 1 rfl) ?_
    refine ztG_amiss C hP dX1_byteAt_19 ?_
    refine lv_if_ne (tgt := 29) hx hb dX1_byteAt_22 (by decide) (fun c2 => ?_) (fun c2 => ?_)
    · refine lv_iconst (v := 1) hx hb dX1_byteAt_29 (by decide) ?_
      refine lv_goto (tgt := 34) hx hb dX1_byteAt_30 (by decide) ?_
      refine ztP_amiss C hP hS rfl rfl dX1_byteAt_34 (fun u3 H locs hu3 hP hS => ?_)
      refine lv_iload_n hx hb dX1_byteAt_37 rfl (lv_at hl 0 rfl) ?_
      refine lv_if_eq (tgt := 50) hx hb dX1_byteAt_38 (by decide) (fun _ => ?_) (fun q => absurd q (by decide))
      refine lv_iconst (v := 0) hx hb dX1_byteAt_50 (by decide) ?_
      exact zt_iret C hr hlk hP hS (by subst hu3; first | (unfold zt_byteAt; rw [if_pos c1, if_neg c2]; done) | exact (if_pos c1).trans ((if_neg c2).trans (rfl))) dX1_byteAt_51
    · refine lv_iload_n hx hb dX1_byteAt_25 rfl (lv_at hl 0 rfl) ?_
      refine lv_if_ne (tgt := 33) hx hb dX1_byteAt_26 (by decide) (fun q => absurd q (by decide)) (fun _ => ?_)
      refine lv_iconst (v := 1) hx hb dX1_byteAt_29 (by decide) ?_
      refine lv_goto (tgt := 34) hx hb dX1_byteAt_30 (by decide) ?_
      refine ztP_amiss C hP hS rfl rfl dX1_byteAt_34 (fun u4 H locs hu4 hP hS => ?_)
      refine lv_iload_n hx hb dX1_byteAt_37 rfl (lv_at hl 0 rfl) ?_
      refine lv_if_eq (tgt := 50) hx hb dX1_byteAt_38 (by decide) (fun _ => ?_) (fun q => absurd q (by decide))
      refine lv_iconst (v := 0) hx hb dX1_byteAt_50 (by decide) ?_
      exact zt_iret C hr hlk hP hS (by subst hu4; first | (unfold zt_byteAt; rw [if_pos c1, if_pos c2]; done) | exact (if_pos c1).trans ((if_pos c2).trans (rfl))) dX1_byteAt_51
  · refine lv_iload_n hx hb dX1_byteAt_4 rfl (lv_at hl 1 rfl) ?_
    refine lv_sipush (v := 512) hx hb dX1_byteAt_5 (by decide) ?_
    refine lv_icmp_ge (tgt := 15) hx hb dX1_byteAt_8 (by decide) (fun c5 => ?_) (fun c5 => ?_)
    · refine lv_iconst (v := 0) hx hb dX1_byteAt_15 (by decide) ?_
      refine lv_istore_n (lv' := [(2, .int 0), (0, .ref (zta_this k)), (1, .int a1)]) hx hb dX1_byteAt_16 rfl hl (by decide) rfl (fun ls hl => ?_)
      refine lv_aload_n hx hb dX1_byteAt_17 rfl (lv_at hl 1 rfl) ?_
      refine lv_aload_n hx hb dX1_byteAt_18 rfl (lv_at hl 1 rfl) ?_
      refine ztG_amiss C hP dX1_byteAt_19 ?_
      refine lv_if_ne (tgt := 29) hx hb dX1_byteAt_22 (by decide) (fun c6 => ?_) (fun c6 => ?_)
      · refine lv_iconst (v := 1) hx hb dX1_byteAt_29 (by decide) ?_
        refine lv_goto (tgt := 34) hx hb dX1_byteAt_30 (by decide) ?_
        refine ztP_amiss C hP hS rfl rfl dX1_byteAt_34 (fun u7 H locs hu7 hP hS => ?_)
        refine lv_iload_n hx hb dX1_byteAt_37 rfl (lv_at hl 0 rfl) ?_
        refine lv_if_eq (tgt := 50) hx hb dX1_byteAt_38 (by decide) (fun _ => ?_) (fun q => absurd q (by decide))
        refine lv_iconst (v := 0) hx hb dX1_byteAt_50 (by decide) ?_
        exact zt_iret C hr hlk hP hS (by subst hu7; first | (unfold zt_byteAt; rw [if_neg c1, if_pos c5, if_neg c6]; done) | exact (if_neg c1).trans ((if_pos c5).trans ((if_neg c6).trans (rfl)))) dX1_byteAt_51
      · refine lv_iload_n hx hb dX1_byteAt_25 rfl (lv_at hl 0 rfl) ?_
        refine lv_if_ne (tgt := 33) hx hb dX1_byteAt_26 (by decide) (fun q => absurd q (by decide)) (fun _ => ?_)
        refine lv_iconst (v := 1) hx hb dX1_byteAt_29 (by decide) ?_
        refine lv_goto (tgt := 34) hx hb dX1_byteAt_30 (by decide) ?_
        refine ztP_amiss C hP hS rfl rfl dX1_byteAt_34 (fun u8 H locs hu8 hP hS => ?_)
        refine lv_iload_n hx hb dX1_byteAt_37 rfl (lv_at hl 0 rfl) ?_
        refine lv_if_eq (tgt := 50) hx hb dX1_byteAt_38 (by decide) (fun _ => ?_) (fun q => absurd q (by decide))
        refine lv_iconst (v := 0) hx hb dX1_byteAt_50 (by decide) ?_
        exact zt_iret C hr hlk hP hS (by subst hu8; first | (unfold zt_byteAt; rw [if_neg c1, if_pos c5, if_pos c6]; done) | exact (if_neg c1).trans ((if_pos c5).trans ((if_pos c6).trans (rfl)))) dX1_byteAt_51
    · refine lv_iconst (v := 1) hx hb dX1_byteAt_11 (by decide) ?_
      refine lv_goto (tgt := 16) hx hb dX1_byteAt_12 (by decide) ?_
      refine lv_istore_n (lv' := [(2, .int 1), (0, .ref (zta_this k)), (1, .int a1)]) hx hb dX1_byteAt_16 rfl hl (by decide) rfl (fun ls hl => ?_)
      refine lv_aload_n hx hb dX1_byteAt_17 rfl (lv_at hl 1 rfl) ?_
      refine lv_aload_n hx hb dX1_byteAt_18 rfl (lv_at hl 1 rfl) ?_
      refine ztG_amiss C hP dX1_byteAt_19 ?_
      refine lv_if_ne (tgt := 29) hx hb dX1_byteAt_22 (by decide) (fun c9 => ?_) (fun c9 => ?_)
      · refine lv_iconst (v := 1) hx hb dX1_byteAt_29 (by decide) ?_
        refine lv_goto (tgt := 34) hx hb dX1_byteAt_30 (by decide) ?_
        refine ztP_amiss C hP hS rfl rfl dX1_byteAt_34 (fun u10 H locs hu10 hP hS => ?_)
        refine lv_iload_n hx hb dX1_byteAt_37 rfl (lv_at hl 0 rfl) ?_
        refine lv_if_eq (tgt := 50) hx hb dX1_byteAt_38 (by decide) (fun q => absurd q (by decide)) (fun _ => ?_)
        refine lv_aload_n hx hb dX1_byteAt_41 rfl (lv_at hl 1 rfl) ?_
        refine ztG_bytes C hP dX1_byteAt_42 ?_
        refine lv_iload_n hx hb dX1_byteAt_45 rfl (lv_at hl 2 rfl) ?_
        refine ztL_bytes C hP (by first | with_reducible assumption | with_reducible exact zt_in (by with_reducible assumption) | with_reducible exact zt_inb (by with_reducible assumption) (by with_reducible assumption)) dX1_byteAt_46 ?_
        refine lv_goto (tgt := 51) hx hb dX1_byteAt_47 (by decide) ?_
        exact zt_iret C hr hlk hP hS (by subst hu10; first | (unfold zt_byteAt; rw [if_neg c1, if_neg c5, if_neg c9]; done) | exact (if_neg c1).trans ((if_neg c5).trans ((if_neg c9).trans (rfl)))) dX1_byteAt_51
      · refine lv_iload_n hx hb dX1_byteAt_25 rfl (lv_at hl 0 rfl) ?_
        refine lv_if_ne (tgt := 33) hx hb dX1_byteAt_26 (by decide) (fun _ => ?_) (fun q => absurd q (by decide))
        refine lv_iconst (v := 0) hx hb dX1_byteAt_33 (by decide) ?_
        refine ztP_amiss C hP hS rfl rfl dX1_byteAt_34 (fun u11 H locs hu11 hP hS => ?_)
        refine lv_iload_n hx hb dX1_byteAt_37 rfl (lv_at hl 0 rfl) ?_
        refine lv_if_eq (tgt := 50) hx hb dX1_byteAt_38 (by decide) (fun q => absurd q (by decide)) (fun _ => ?_)
        refine lv_aload_n hx hb dX1_byteAt_41 rfl (lv_at hl 1 rfl) ?_
        refine ztG_bytes C hP dX1_byteAt_42 ?_
        refine lv_iload_n hx hb dX1_byteAt_45 rfl (lv_at hl 2 rfl) ?_
        refine ztL_bytes C hP (by first | with_reducible assumption | with_reducible exact zt_in (by with_reducible assumption) | with_reducible exact zt_inb (by with_reducible assumption) (by with_reducible assumption)) dX1_byteAt_46 ?_
        refine lv_goto (tgt := 51) hx hb dX1_byteAt_47 (by decide) ?_
        exact zt_iret C hr hlk hP hS (by subst hu11; first | (unfold zt_byteAt; rw [if_neg c1, if_neg c5, if_pos c9]; done) | exact (if_neg c1).trans ((if_neg c5).trans ((if_pos c9).trans (rfl)))) dX1_byteAt_51
section
variable {p : Program} {l : Launch} {e : Env} {R : Room} {s : State} {m : MethodId} {args : Array Value} {below : List Frame} {meth : Method} {c : Code} {H : Heap} {locs : List Loc} {Q : State → Prop} {cc : ByteArray} {pc nL : Nat} {ls : Array Slot} {rest : List Value} {k : Ztk} {u : Zts} {H0 : Heap}
set_option maxHeartbeats 4000000 in
set_option maxRecDepth 100000 in
theorem ztK_byteAt {a1 : Int32} (C : ZtC p s m args c cc nL k) (hP : ZtP k u H) (hS : va_S (ZtA k) H0 H locs) (hsz : ls.size = nL) (hR : 0 + 1 ≤ R.frames ∧ 8 + (3 + 11) + 40 * 0 ≤ R.locals) (hw : (rest.map fun v => v.category).sum ≤ 8) (hdg : decode cc pc = .ok (.invokevirtual 61, 3)) (kk : ∀ (r1 : Int32) (u1 : Zts) (H1 : Heap) (locs1 : List Loc), r1 = (zt_byteAt u a1).1 → u1 = (zt_byteAt u a1).2 → ZtP k u1 H1 → va_S (ZtA k) H0 H1 locs1 → W p l e R s m args below meth c H1 locs1 0 0 Q (F0 m (pc + 3) ls (.int r1 :: rest))) : W p l e R s m args below meth c H locs 0 0 Q (F0 m pc ls (.int a1 :: .ref (zta_this k) :: rest)) :=
  zt_callV (y := yX1_byteAt) (n := 1) (As := [.int a1]) C (ztM_byteAt l k C.2.2 u a1 ) zwT_c_byteAt zwT_l_byteAt zwT_i_byteAt zwT_v_byteAt rfl (by decide +kernel) hP hS hsz hR hw rfl hdg (fun H1 locs1 hP1 hS1 => kk _ _ H1 locs1 rfl rfl hP1 hS1)
end
set_option maxHeartbeats 4000000 in
theorem zt_G_byteAt {w0 : Nat → Int32} {n : Nat} {u : Zts} (a1 : Int32) (h : ZtG w0 n u) : ZtG w0 (n + 0) (zt_byteAt u a1).2 := by
  have gu : ZtG w0 (n + 0) u := h
  by_cases e0 : a1 < 0
  · by_cases e1 : (ztg_amiss u) = 0
    · obtain ⟨u4, hu4⟩ : ∃ z, z = zts_amiss u 1 := ⟨_, rfl⟩
      have gu4 : ZtG w0 (n + 0) u4 := by rw [hu4]; exact zt_Gs_amiss _ gu
      have eq9 : zt_byteAt u a1 = (0, u4) := by subst hu4; first | (unfold zt_byteAt; rw [if_pos e0, if_pos e1]; done) | exact (if_pos e0).trans ((if_pos e1).trans (rfl))
      rw [eq9]; exact zt_Gle (by omega) gu4
    · obtain ⟨u3, hu3⟩ : ∃ z, z = zts_amiss u 1 := ⟨_, rfl⟩
      have gu3 : ZtG w0 (n + 0) u3 := by rw [hu3]; exact zt_Gs_amiss _ gu
      have eq9 : zt_byteAt u a1 = (0, u3) := by subst hu3; first | (unfold zt_byteAt; rw [if_pos e0, if_neg e1]; done) | exact (if_pos e0).trans ((if_neg e1).trans (rfl))
      rw [eq9]; exact zt_Gle (by omega) gu3
  · by_cases e10 : 512 ≤ a1
    · by_cases e11 : (ztg_amiss u) = 0
      · obtain ⟨u8, hu8⟩ : ∃ z, z = zts_amiss u 1 := ⟨_, rfl⟩
        have gu8 : ZtG w0 (n + 0) u8 := by rw [hu8]; exact zt_Gs_amiss _ gu
        have eq9 : zt_byteAt u a1 = (0, u8) := by subst hu8; first | (unfold zt_byteAt; rw [if_neg e0, if_pos e10, if_pos e11]; done) | exact (if_neg e0).trans ((if_pos e10).trans ((if_pos e11).trans (rfl)))
        rw [eq9]; exact zt_Gle (by omega) gu8
      · obtain ⟨u7, hu7⟩ : ∃ z, z = zts_amiss u 1 := ⟨_, rfl⟩
        have gu7 : ZtG w0 (n + 0) u7 := by rw [hu7]; exact zt_Gs_amiss _ gu
        have eq9 : zt_byteAt u a1 = (0, u7) := by subst hu7; first | (unfold zt_byteAt; rw [if_neg e0, if_pos e10, if_neg e11]; done) | exact (if_neg e0).trans ((if_pos e10).trans ((if_neg e11).trans (rfl)))
        rw [eq9]; exact zt_Gle (by omega) gu7
    · by_cases e20 : (ztg_amiss u) = 0
      · obtain ⟨u11, hu11⟩ : ∃ z, z = zts_amiss u 0 := ⟨_, rfl⟩
        have gu11 : ZtG w0 (n + 0) u11 := by rw [hu11]; exact zt_Gs_amiss _ gu
        have eq9 : zt_byteAt u a1 = (ztg_bytes u11 a1.toNatClampNeg, u11) := by subst hu11; first | (unfold zt_byteAt; rw [if_neg e0, if_neg e10, if_pos e20]; done) | exact (if_neg e0).trans ((if_neg e10).trans ((if_pos e20).trans (rfl)))
        rw [eq9]; exact zt_Gle (by omega) gu11
      · obtain ⟨u10, hu10⟩ : ∃ z, z = zts_amiss u 1 := ⟨_, rfl⟩
        have gu10 : ZtG w0 (n + 0) u10 := by rw [hu10]; exact zt_Gs_amiss _ gu
        have eq9 : zt_byteAt u a1 = (ztg_bytes u10 a1.toNatClampNeg, u10) := by subst hu10; first | (unfold zt_byteAt; rw [if_neg e0, if_neg e10, if_neg e20]; done) | exact (if_neg e0).trans ((if_neg e10).trans ((if_neg e20).trans (rfl)))
        rw [eq9]; exact zt_Gle (by omega) gu10

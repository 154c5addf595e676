def zt_isWord (a1 : Int32) : Int32 :=
  if a1 < 0 then (
    0)
  else (
    if 256 ≤ a1 then (
      0)
    else (
      1))
set_option maxHeartbeats 4000000 in
set_option maxRecDepth 100000 in
theorem ztM_isWord (l : Launch) (a1 : Int32) : Met l yX1_isWord (.code yX1_isWord cX1_isWord 1 (some .boolean) :: zwT) (zrm 0) (fun a _ => a = ([.int a1] : List Value).toArray) (QcRead (zt_isWord a1)) 0 0 (fun _ => False) := by
  refine z_enterS (by decide) (Nat.le_of_ble_eq_true rfl) ?_
  intro p e s m below meth c ls hx hb hr hlk hl
  have hl : lv_has ls 1 [(0, .int a1)] := hl
  refine lv_iload_n hx hb dX1_isWord_0 rfl (lv_at hl 0 rfl) ?_
  refine lv_if_lt (tgt := 15) hx hb dX1_isWord_1 (by decide) (fun c1 => ?_) (fun c1 => ?_)
  · refine lv_iconst (v := 0) hx hb dX1_isWord_15 (by decide) ?_
    exact z_sret hx hb hr rfl hlk (by first | (unfold zt_isWord; rw [if_pos c1]; done) | exact (if_pos c1).trans (rfl)) dX1_isWord_16
  · refine lv_iload_n hx hb dX1_isWord_4 rfl (lv_at hl 0 rfl) ?_
    refine lv_sipush (v := 256) hx hb dX1_isWord_5 (by decide) ?_
    refine lv_icmp_ge (tgt := 15) hx hb dX1_isWord_8 (by decide) (fun c2 => ?_) (fun c2 => ?_)
    · refine lv_iconst (v := 0) hx hb dX1_isWord_15 (by decide) ?_
      exact z_sret hx hb hr rfl hlk (by first | (unfold zt_isWord; rw [if_neg c1, if_pos c2]; done) | exact (if_neg c1).trans ((if_pos c2).trans (rfl))) dX1_isWord_16
    · refine lv_iconst (v := 1) hx hb dX1_isWord_11 (by decide) ?_
      refine lv_goto (tgt := 16) hx hb dX1_isWord_12 (by decide) ?_
      exact z_sret hx hb hr rfl hlk (by first | (unfold zt_isWord; rw [if_neg c1, if_neg c2]; done) | exact (if_neg c1).trans ((if_neg c2).trans (rfl))) dX1_isWord_16
section
variable {p : Program} {l : Launch} {e : Env} {R : Room} {s : State} {m : MethodId} {args : Array Value} {below : List Frame} {meth : Method} {c : Code} {H : Heap} {locs : List Loc} {Q : State → Prop} {cc : ByteArray} {pc nL : Nat} {ls : Array Slot} {rest : List Value} {k : Ztk} {u : Zts} {H0 : Heap}
set_option maxHeartbeats 4000000 in
set_option maxRecDepth 100000 in
theorem ztK_isWord {a1 : Int32} (C : ZtC p s m args c cc nL k) (hsz : ls.size = nL) (hR : 0 + 1 ≤ R.frames ∧ 8 + (1 + 11) + 40 * 0 ≤ R.locals) (hw : (rest.map fun v => v.category).sum ≤ 8) (hdg : decode cc pc = .ok (.invokestatic 26, 3)) (kk : W p l e R s m args below meth c H locs 0 0 Q (F0 m (pc + 3) ls (.int (zt_isWord a1) :: rest))) : W p l e R s m args below meth c H locs 0 0 Q (F0 m pc ls (.int a1 :: rest)) :=
  zt_callS (y := yX1_isWord) (n := 1) C (ztM_isWord l a1 ) zwT_c_isWord zwT_l_isWord zwT_s_isWord rfl (by decide +kernel) hsz hR hw rfl hdg kk
end
def zt_signed (a1 a2 : Int32) : Int32 :=
  (a1 <<< ((32 - a2) &&& 31)) >>> ((32 - a2) &&& 31)
set_option maxHeartbeats 4000000 in
set_option maxRecDepth 100000 in
theorem ztM_signed (l : Launch) (a1 a2 : Int32) : Met l yX1_signed (.code yX1_signed cX1_signed 2 (some .int) :: zwT) (zrm 0) (fun a _ => a = ([.int a1, .int a2] : List Value).toArray) (QcRead (zt_signed a1 a2)) 0 0 (fun _ => False) := by
  refine z_enterS (by decide) (Nat.le_of_ble_eq_true rfl) ?_
  intro p e s m below meth c ls hx hb hr hlk hl
  have hl : lv_has ls 2 [(0, .int a1), (1, .int a2)] := hl
  refine lv_iload_n hx hb dX1_signed_0 rfl (lv_at hl 0 rfl) ?_
  refine lv_bipush (v := 32) hx hb dX1_signed_1 (by decide) ?_
  refine lv_iload_n hx hb dX1_signed_3 rfl (lv_at hl 1 rfl) ?_
  refine lv_isub hx hb dX1_signed_4 ?_
  refine lv_ishl hx hb dX1_signed_5 ?_
  refine lv_bipush (v := 32) hx hb dX1_signed_6 (by decide) ?_
  refine lv_iload_n hx hb dX1_signed_8 rfl (lv_at hl 1 rfl) ?_
  refine lv_isub hx hb dX1_signed_9 ?_
  refine lv_ishr hx hb dX1_signed_10 ?_
  exact z_sret hx hb hr rfl hlk (by exact rfl) dX1_signed_11
section
variable {p : Program} {l : Launch} {e : Env} {R : Room} {s : State} {m : MethodId} {args : Array Value} {below : List Frame} {meth : Method} {c : Code} {H : Heap} {locs : List Loc} {Q : State → Prop} {cc : ByteArray} {pc nL : Nat} {ls : Array Slot} {rest : List Value} {k : Ztk} {u : Zts} {H0 : Heap}
set_option maxHeartbeats 4000000 in
set_option maxRecDepth 100000 in
theorem ztK_signed {a1 a2 : Int32} (C : ZtC p s m args c cc nL k) (hsz : ls.size = nL) (hR : 0 + 1 ≤ R.frames ∧ 8 + (2 + 11) + 40 * 0 ≤ R.locals) (hw : (rest.map fun v => v.category).sum ≤ 8) (hdg : decode cc pc = .ok (.invokestatic 88, 3)) (kk : W p l e R s m args below meth c H locs 0 0 Q (F0 m (pc + 3) ls (.int (zt_signed a1 a2) :: rest))) : W p l e R s m args below meth c H locs 0 0 Q (F0 m pc ls (.int a2 :: .int a1 :: rest)) :=
  zt_callS (y := yX1_signed) (n := 2) C (ztM_signed l a1 a2 ) zwT_c_signed zwT_l_signed zwT_s_signed rfl (by decide +kernel) hsz hR hw rfl hdg kk
end

theorem zt_in {x : Int32} (h : ¬ zt_isWord x = 0) : vp_in x 256 := by
  unfold zt_isWord at h
  by_cases a : x < 0
  · rw [if_pos a] at h; exact absurd rfl h
  rw [if_neg a] at h
  by_cases b : 256 ≤ x
  · rw [if_pos b] at h; exact absurd rfl h
  obtain ⟨q, hq, rfl⟩ := nI_of a
  exact vp_in_nI (Nat.lt_of_not_le (fun g => b (nI_le g hq))) (by decide)
theorem zt_inb {x : Int32} (a : ¬ x < 0) (b : ¬ 512 ≤ x) : vp_in x 512 := by
  obtain ⟨q, hq, rfl⟩ := nI_of a
  exact vp_in_nI (Nat.lt_of_not_le (fun g => b (nI_le g hq))) (by decide)
/-- the words as they were before the last j writes, by the notes of places and of what stood there -/
def zundo (pl bf : Nat → Int32) : Nat → (Nat → Int32) → (Nat → Int32)
  | 0, w => w
  | j + 1, w => zundo pl bf j (upd w (pl j).toNatClampNeg (bf j))
theorem zundo_congr {pl bf pl' bf' : Nat → Int32} : ∀ (j : Nat) (w : Nat → Int32), (∀ i, i < j → pl i = pl' i ∧ bf i = bf' i) → zundo pl bf j w = zundo pl' bf' j w
  | 0, _, _ => rfl
  | j + 1, w, h => by
    unfold zundo
    rw [(h j (Nat.lt_succ_self j)).1, (h j (Nat.lt_succ_self j)).2]
    exact zundo_congr j _ (fun i hi => h i (Nat.lt_succ_of_lt hi))
/-- at most n writes are noted, at places that are there, and undoing them gives the words w0 -/
def ZtG (w0 : Nat → Int32) (n : Nat) (u : Zts) : Prop := ∃ j : Nat, j ≤ n ∧ ztg_writes u = nI j ∧ (∀ i, i < j → ∃ q : Nat, q < 256 ∧ ztg_places u i = nI q) ∧ zundo (ztg_places u) (ztg_before u) j (ztg_words u) = w0
theorem zt_Gle {w0 : Nat → Int32} {m n : Nat} {u : Zts} (h : m ≤ n) (g : ZtG w0 m u) : ZtG w0 n u := by
  obtain ⟨j, h1, h2⟩ := g
  exact ⟨j, Nat.le_trans h1 h, h2⟩
theorem zt_in8 {w0 : Nat → Int32} {u : Zts} (h : ZtG w0 7 u) : vp_in (ztg_writes u) 8 := by
  obtain ⟨j, h1, h2, -⟩ := h
  rw [h2]
  exact vp_in_nI (by omega) (by decide)
theorem zt_Gs_thrown {w0 : Nat → Int32} {n : Nat} {u : Zts} (v : Int32) (h : ZtG w0 n u) : ZtG w0 n (zts_thrown u v) := h
theorem zt_Gs_pc {w0 : Nat → Int32} {n : Nat} {u : Zts} (v : Int32) (h : ZtG w0 n u) : ZtG w0 n (zts_pc u v) := h
theorem zt_Gs_sp {w0 : Nat → Int32} {n : Nat} {u : Zts} (v : Int32) (h : ZtG w0 n u) : ZtG w0 n (zts_sp u v) := h
theorem zt_Gs_lv {w0 : Nat → Int32} {n : Nat} {u : Zts} (v : Int32) (h : ZtG w0 n u) : ZtG w0 n (zts_lv u v) := h
theorem zt_Gs_cpp {w0 : Nat → Int32} {n : Nat} {u : Zts} (v : Int32) (h : ZtG w0 n u) : ZtG w0 n (zts_cpp u v) := h
theorem zt_Gs_top {w0 : Nat → Int32} {n : Nat} {u : Zts} (v : Int32) (h : ZtG w0 n u) : ZtG w0 n (zts_top u v) := h
theorem zt_Gs_state {w0 : Nat → Int32} {n : Nat} {u : Zts} (v : Int32) (h : ZtG w0 n u) : ZtG w0 n (zts_state u v) := h
theorem zt_Gs_cycles {w0 : Nat → Int32} {n : Nat} {u : Zts} (v : Int32) (h : ZtG w0 n u) : ZtG w0 n (zts_cycles u v) := h
theorem zt_Gs_done {w0 : Nat → Int32} {n : Nat} {u : Zts} (v : Int32) (h : ZtG w0 n u) : ZtG w0 n (zts_done u v) := h
theorem zt_Gs_next {w0 : Nat → Int32} {n : Nat} {u : Zts} (v : Int32) (h : ZtG w0 n u) : ZtG w0 n (zts_next u v) := h
theorem zt_Gs_amiss {w0 : Nat → Int32} {n : Nat} {u : Zts} (v : Int32) (h : ZtG w0 n u) : ZtG w0 n (zts_amiss u v) := h
theorem zt_Gs_unknown {w0 : Nat → Int32} {n : Nat} {u : Zts} (v : Int32) (h : ZtG w0 n u) : ZtG w0 n (zts_unknown u v) := h
def zt_read (u : Zts) (a1 : Int32) : Int32 × Zts :=
  if (ztg_amiss u) = 0 then (
    if (zt_isWord a1) = 0 then (
      let u7 := zts_amiss u 1
      if (zt_isWord a1) = 0 then (
        (0, u7))
      else (
        (ztg_words u7 a1.toNatClampNeg, u7)))
    else (
      let u5 := zts_amiss u 0
      if (zt_isWord a1) = 0 then (
        (0, u5))
      else (
        (ztg_words u5 a1.toNatClampNeg, u5))))
  else (
    let u2 := zts_amiss u 1
    if (zt_isWord a1) = 0 then (
      (0, u2))
    else (
      (ztg_words u2 a1.toNatClampNeg, u2)))
set_option maxHeartbeats 4000000 in
set_option maxRecDepth 100000 in
theorem ztM_read (l : Launch) (k : Ztk) (Dk : ZtD k) (u : Zts) (a1 : Int32) : Met l yX1_read (.code yX1_read cX1_read 2 (some .int) :: zwT) (zrm 1) (ZtB k [.ref (zta_this k), .int a1] u) (ZtQ k (some (.int (zt_read u a1).1)) (zt_read u a1).2) 0 0 (ZtA k) := by
  refine ztE_in (by decide) rfl (Nat.le_of_ble_eq_true rfl) Dk ?_
  intro p e s m below meth c ls C hr hlk hP hl
  have hx := C.1.1
  have hb := C.1.2.1
  have hl : lv_has ls 2 [(0, .ref (zta_this k)), (1, .int a1)] := hl
  have hS : va_S (ZtA k) s.heap s.heap [] := va_S.rf
  refine lv_aload_n hx hb dX1_read_0 rfl (lv_at hl 0 rfl) ?_
  refine lv_aload_n hx hb dX1_read_1 rfl (lv_at hl 0 rfl) ?_
  refine ztG_amiss C hP dX1_read_2 ?_
  refine lv_if_ne (tgt := 15) hx hb dX1_read_5 (by decide) (fun c1 => ?_) (fun c1 => ?_)
  · refine lv_iconst (v := 1) hx hb dX1_read_15 (by decide) ?_
    refine lv_goto (tgt := 20) hx hb dX1_read_16 (by decide) ?_
    refine ztP_amiss C hP hS rfl rfl dX1_read_20 (fun u2 H locs hu2 hP hS => ?_)
    refine lv_iload_n hx hb dX1_read_23 rfl (lv_at hl 1 rfl) ?_
    refine ztK_isWord C hl.1 (by decide) (Nat.le_of_ble_eq_true rfl) dX1_read_24 ?_
    refine lv_if_eq (tgt := 39) hx hb dX1_read_27 (by decide) (fun c3 => ?_) (fun c3 => ?_)
    · refine lv_iconst (v := 0) hx hb dX1_read_39 (by decide) ?_
      exact zt_iret C hr hlk hP hS (by subst hu2; first | (unfold zt_read; rw [if_neg c1, if_pos c3]; done) | exact (if_neg c1).trans ((if_pos c3).trans (rfl))) dX1_read_40
    · refine lv_aload_n hx hb dX1_read_30 rfl (lv_at hl 0 rfl) ?_
      refine ztG_words C hP dX1_read_31 ?_
      refine lv_iload_n hx hb dX1_read_34 rfl (lv_at hl 1 rfl) ?_
      refine ztL_words C hP (by first | with_reducible assumption | with_reducible exact zt_in (by with_reducible assumption) | with_reducible exact zt_inb (by with_reducible assumption) (by with_reducible assumption)) dX1_read_35 ?_
      refine lv_goto (tgt := 40) hx hb dX1_read_36 (by decide) ?_
      exact zt_iret C hr hlk hP hS (by subst hu2; first | (unfold zt_read; rw [if_neg c1, if_neg c3]; done) | exact (if_neg c1).trans ((if_neg c3).trans (rfl))) dX1_read_40
  · refine lv_iload_n hx hb dX1_read_8 rfl (lv_at hl 1 rfl) ?_
    refine ztK_isWord C hl.1 (by decide) (Nat.le_of_ble_eq_true rfl) dX1_read_9 ?_
    refine lv_if_ne (tgt := 19) hx hb dX1_read_12 (by decide) (fun c4 => ?_) (fun c4 => ?_)
    · refine lv_iconst (v := 0) hx hb dX1_read_19 (by decide) ?_
      refine ztP_amiss C hP hS rfl rfl dX1_read_20 (fun u5 H locs hu5 hP hS => ?_)
      refine lv_iload_n hx hb dX1_read_23 rfl (lv_at hl 1 rfl) ?_
      refine ztK_isWord C hl.1 (by decide) (Nat.le_of_ble_eq_true rfl) dX1_read_24 ?_
      refine lv_if_eq (tgt := 39) hx hb dX1_read_27 (by decide) (fun c6 => ?_) (fun c6 => ?_)
      · refine lv_iconst (v := 0) hx hb dX1_read_39 (by decide) ?_
        exact zt_iret C hr hlk hP hS (by subst hu5; first | (unfold zt_read; rw [if_pos c1, if_neg c4, if_pos c6]; done) | exact (if_pos c1).trans ((if_neg c4).trans ((if_pos c6).trans (rfl)))) dX1_read_40
      · refine lv_aload_n hx hb dX1_read_30 rfl (lv_at hl 0 rfl) ?_
        refine ztG_words C hP dX1_read_31 ?_
        refine lv_iload_n hx hb dX1_read_34 rfl (lv_at hl 1 rfl) ?_
        refine ztL_words C hP (by first | with_reducible assumption | with_reducible exact zt_in (by with_reducible assumption) | with_reducible exact zt_inb (by with_reducible assumption) (by with_reducible assumption)) dX1_read_35 ?_
        refine lv_goto (tgt := 40) hx hb dX1_read_36 (by decide) ?_
        exact zt_iret C hr hlk hP hS (by subst hu5; first | (unfold zt_read; rw [if_pos c1, if_neg c4, if_neg c6]; done) | exact (if_pos c1).trans ((if_neg c4).trans ((if_neg c6).trans (rfl)))) dX1_read_40
    · refine lv_iconst (v := 1) hx hb dX1_read_15 (by decide) ?_
      refine lv_goto (tgt := 20) hx hb dX1_read_16 (by decide) ?_
      refine ztP_amiss C hP hS rfl rfl dX1_read_20 (fun u7 H locs hu7 hP hS => ?_)
      refine lv_iload_n hx hb dX1_read_23 rfl (lv_at hl 1 rfl) ?_
      refine ztK_isWord C hl.1 (by decide) (Nat.le_of_ble_eq_true rfl) dX1_read_24 ?_
      refine lv_if_eq (tgt := 39) hx hb dX1_read_27 (by decide) (fun c8 => ?_) (fun c8 => ?_)
      · refine lv_iconst (v := 0) hx hb dX1_read_39 (by decide) ?_
        exact zt_iret C hr hlk hP hS (by subst hu7; first | (unfold zt_read; rw [if_pos c1, if_pos c4, if_pos c8]; done) | exact (if_pos c1).trans ((if_pos c4).trans ((if_pos c8).trans (rfl)))) dX1_read_40
      · refine lv_aload_n hx hb dX1_read_30 rfl (lv_at hl 0 rfl) ?_
        refine ztG_words C hP dX1_read_31 ?_
        refine lv_iload_n hx hb dX1_read_34 rfl (lv_at hl 1 rfl) ?_
        refine ztL_words C hP (by first | with_reducible assumption | with_reducible exact zt_in (by with_reducible assumption) | with_reducible exact zt_inb (by with_reducible assumption) (by with_reducible assumption)) dX1_read_35 ?_
        refine lv_goto (tgt := 40) hx hb dX1_read_36 (by decide) ?_
        exact zt_iret C hr hlk hP hS (by subst hu7; first | (unfold zt_read; rw [if_pos c1, if_pos c4, if_neg c8]; done) | exact (if_pos c1).trans ((if_pos c4).trans ((if_neg c8).trans (rfl)))) dX1_read_40
section
variable {p : Program} {l : Launch} {e : Env} {R : Room} {s : State} {m : MethodId} {args : Array Value} {below : List Frame} {meth : Method} {c : Code} {H : Heap} {locs : List Loc} {Q : State → Prop} {cc : ByteArray} {pc nL : Nat} {ls : Array Slot} {rest : List Value} {k : Ztk} {u : Zts} {H0 : Heap}
set_option maxHeartbeats 4000000 in
set_option maxRecDepth 100000 in
theorem ztK_read {a1 : Int32} (C : ZtC p s m args c cc nL k) (hP : ZtP k u H) (hS : va_S (ZtA k) H0 H locs) (hsz : ls.size = nL) (hR : 1 + 1 ≤ R.frames ∧ 8 + (2 + 11) + 40 * 1 ≤ R.locals) (hw : (rest.map fun v => v.category).sum ≤ 8) (hdg : decode cc pc = .ok (.invokevirtual 65, 3)) (kk : ∀ (r1 : Int32) (u1 : Zts) (H1 : Heap) (locs1 : List Loc), r1 = (zt_read u a1).1 → u1 = (zt_read u a1).2 → ZtP k u1 H1 → va_S (ZtA k) H0 H1 locs1 → W p l e R s m args below meth c H1 locs1 0 0 Q (F0 m (pc + 3) ls (.int r1 :: rest))) : W p l e R s m args below meth c H locs 0 0 Q (F0 m pc ls (.int a1 :: .ref (zta_this k) :: rest)) :=
  zt_callV (y := yX1_read) (n := 1) (As := [.int a1]) C (ztM_read l k C.2.2 u a1 ) zwT_c_read zwT_l_read zwT_i_read zwT_v_read rfl (by decide +kernel) hP hS hsz hR hw rfl hdg (fun H1 locs1 hP1 hS1 => kk _ _ H1 locs1 rfl rfl hP1 hS1)
end
set_option maxHeartbeats 4000000 in
theorem zt_G_read {w0 : Nat → Int32} {n : Nat} {u : Zts} (a1 : Int32) (h : ZtG w0 n u) : ZtG w0 (n + 0) (zt_read u a1).2 := by
  have gu : ZtG w0 (n + 0) u := h
  by_cases e0 : (ztg_amiss u) = 0
  · by_cases e1 : (zt_isWord a1) = 0
    · obtain ⟨u7, hu7⟩ : ∃ z, z = zts_amiss u 1 := ⟨_, rfl⟩
      have gu7 : ZtG w0 (n + 0) u7 := by rw [hu7]; exact zt_Gs_amiss _ gu
      by_cases e4 : (zt_isWord a1) = 0
      · have eq9 : zt_read u a1 = (0, u7) := by subst hu7; first | (unfold zt_read; rw [if_pos e0, if_pos e1, if_pos e4]; done) | exact (if_pos e0).trans ((if_pos e1).trans ((if_pos e4).trans (rfl)))
        rw [eq9]; exact zt_Gle (by omega) gu7
      · have eq9 : zt_read u a1 = (ztg_words u7 a1.toNatClampNeg, u7) := by subst hu7; first | (unfold zt_read; rw [if_pos e0, if_pos e1, if_neg e4]; done) | exact (if_pos e0).trans ((if_pos e1).trans ((if_neg e4).trans (rfl)))
        rw [eq9]; exact zt_Gle (by omega) gu7
    · obtain ⟨u5, hu5⟩ : ∃ z, z = zts_amiss u 0 := ⟨_, rfl⟩
      have gu5 : ZtG w0 (n + 0) u5 := by rw [hu5]; exact zt_Gs_amiss _ gu
      by_cases e11 : (zt_isWord a1) = 0
      · have eq9 : zt_read u a1 = (0, u5) := by subst hu5; first | (unfold zt_read; rw [if_pos e0, if_neg e1, if_pos e11]; done) | exact (if_pos e0).trans ((if_neg e1).trans ((if_pos e11).trans (rfl)))
        rw [eq9]; exact zt_Gle (by omega) gu5
      · have eq9 : zt_read u a1 = (ztg_words u5 a1.toNatClampNeg, u5) := by subst hu5; first | (unfold zt_read; rw [if_pos e0, if_neg e1, if_neg e11]; done) | exact (if_pos e0).trans ((if_neg e1).trans ((if_neg e11).trans (rfl)))
        rw [eq9]; exact zt_Gle (by omega) gu5
  · obtain ⟨u2, hu2⟩ : ∃ z, z = zts_amiss u 1 := ⟨_, rfl⟩
    have gu2 : ZtG w0 (n + 0) u2 := by rw [hu2]; exact zt_Gs_amiss _ gu
    by_cases e18 : (zt_isWord a1) = 0
    · have eq9 : zt_read u a1 = (0, u2) := by subst hu2; first | (unfold zt_read; rw [if_neg e0, if_pos e18]; done) | exact (if_neg e0).trans ((if_pos e18).trans (rfl))
      rw [eq9]; exact zt_Gle (by omega) gu2
    · have eq9 : zt_read u a1 = (ztg_words u2 a1.toNatClampNeg, u2) := by subst hu2; first | (unfold zt_read; rw [if_neg e0, if_neg e18]; done) | exact (if_neg e0).trans ((if_neg e18).trans (rfl))
      rw [eq9]; exact zt_Gle (by omega) gu2
def zt_write (u : Zts) (a1 a2 : Int32) : Zts :=
  if (ztg_amiss u) = 0 then (
    if (zt_isWord a1) = 0 then (
      let u15 := zts_amiss u 1
      if (zt_isWord a1) = 0 then (
        u15)
      else (
        let u17 := zts_places u15 (upd (ztg_places u15) (ztg_writes u15).toNatClampNeg a1)
        let u18 := zts_before u17 (upd (ztg_before u17) (ztg_writes u17).toNatClampNeg (ztg_words u17 a1.toNatClampNeg))
        let u19 := zts_writes u18 ((ztg_writes u18) + 1)
        let u20 := zts_words u19 (upd (ztg_words u19) a1.toNatClampNeg a2)
        u20))
    else (
      let u9 := zts_amiss u 0
      if (zt_isWord a1) = 0 then (
        u9)
      else (
        let u11 := zts_places u9 (upd (ztg_places u9) (ztg_writes u9).toNatClampNeg a1)
        let u12 := zts_before u11 (upd (ztg_before u11) (ztg_writes u11).toNatClampNeg (ztg_words u11 a1.toNatClampNeg))
        let u13 := zts_writes u12 ((ztg_writes u12) + 1)
        let u14 := zts_words u13 (upd (ztg_words u13) a1.toNatClampNeg a2)
        u14)))
  else (
    let u2 := zts_amiss u 1
    if (zt_isWord a1) = 0 then (
      u2)
    else (
      let u4 := zts_places u2 (upd (ztg_places u2) (ztg_writes u2).toNatClampNeg a1)
      let u5 := zts_before u4 (upd (ztg_before u4) (ztg_writes u4).toNatClampNeg (ztg_words u4 a1.toNatClampNeg))
      let u6 := zts_writes u5 ((ztg_writes u5) + 1)
      let u7 := zts_words u6 (upd (ztg_words u6) a1.toNatClampNeg a2)
      u7))
set_option maxHeartbeats 4000000 in
set_option maxRecDepth 100000 in
theorem ztM_write (l : Launch) (k : Ztk) (Dk : ZtD k) (u : Zts) (a1 a2 : Int32) {w0 : Nat → Int32} (hN : ZtG w0 7 u) : Met l yX1_write (.code yX1_write cX1_write 3 none :: zwT) (zrm 1) (ZtB k [.ref (zta_this k), .int a1, .int a2] u) (ZtQ k none (zt_write u a1 a2)) 0 0 (ZtA k) := by
  refine ztE_in (by decide) rfl (Nat.le_of_ble_eq_true rfl) Dk ?_
  intro p e s m below meth c ls C hr hlk hP hl
  have hx := C.1.1
  have hb := C.1.2.1
  have hl : lv_has ls 3 [(0, .ref (zta_this k)), (1, .int a1), (2, .int a2)] := hl
  have hS : va_S (ZtA k) s.heap s.heap [] := va_S.rf
  refine lv_aload_n hx hb dX1_write_0 rfl (lv_at hl 0 rfl) ?_
  refine lv_aload_n hx hb dX1_write_1 rfl (lv_at hl 0 rfl) ?_
  refine ztG_amiss C hP dX1_write_2 ?_
  refine lv_if_ne (tgt := 15) hx hb dX1_write_5 (by decide) (fun c1 => ?_) (fun c1 => ?_)
  · refine lv_iconst (v := 1) hx hb dX1_write_15 (by decide) ?_
    refine lv_goto (tgt := 20) hx hb dX1_write_16 (by decide) ?_
    refine ztP_amiss C hP hS rfl rfl dX1_write_20 (fun u2 H locs hu2 hP hS => ?_)
    refine lv_iload_n hx hb dX1_write_23 rfl (lv_at hl 1 rfl) ?_
    refine ztK_isWord C hl.1 (by decide) (Nat.le_of_ble_eq_true rfl) dX1_write_24 ?_
    refine lv_if_ne (tgt := 31) hx hb dX1_write_27 (by decide) (fun c3 => ?_) (fun c3 => ?_)
    · refine lv_aload_n hx hb dX1_write_31 rfl (lv_at hl 0 rfl) ?_
      refine ztG_places C hP dX1_write_32 ?_
      refine lv_aload_n hx hb dX1_write_35 rfl (lv_at hl 0 rfl) ?_
      refine ztG_writes C hP dX1_write_36 ?_
      refine lv_iload_n hx hb dX1_write_39 rfl (lv_at hl 1 rfl) ?_
      refine ztS_places C hP hS (by subst hu2; exact (show vp_in (ztg_writes u) 8 from zt_in8 hN)) dX1_write_40 (fun u4 H locs hu4 hP hS => ?_)
      refine lv_aload_n hx hb dX1_write_41 rfl (lv_at hl 0 rfl) ?_
      refine ztG_before C hP dX1_write_42 ?_
      refine lv_aload_n hx hb dX1_write_45 rfl (lv_at hl 0 rfl) ?_
      refine ztG_writes C hP dX1_write_46 ?_
      refine lv_aload_n hx hb dX1_write_49 rfl (lv_at hl 0 rfl) ?_
      refine ztG_words C hP dX1_write_50 ?_
      refine lv_iload_n hx hb dX1_write_53 rfl (lv_at hl 1 rfl) ?_
      refine ztL_words C hP (by first | with_reducible assumption | with_reducible exact zt_in (by with_reducible assumption) | with_reducible exact zt_inb (by with_reducible assumption) (by with_reducible assumption)) dX1_write_54 ?_
      refine ztS_before C hP hS (by subst hu4 hu2; exact (show vp_in (ztg_writes u) 8 from zt_in8 hN)) dX1_write_55 (fun u5 H locs hu5 hP hS => ?_)
      refine lv_aload_n hx hb dX1_write_56 rfl (lv_at hl 0 rfl) ?_
      refine lv_dup hx hb dX1_write_57 rfl ?_
      refine ztG_writes C hP dX1_write_58 ?_
      refine lv_iconst (v := 1) hx hb dX1_write_61 (by decide) ?_
      refine lv_iadd hx hb dX1_write_62 ?_
      refine ztP_writes C hP hS dX1_write_63 (fun u6 H locs hu6 hP hS => ?_)
      refine lv_aload_n hx hb dX1_write_66 rfl (lv_at hl 0 rfl) ?_
      refine ztG_words C hP dX1_write_67 ?_
      refine lv_iload_n hx hb dX1_write_70 rfl (lv_at hl 1 rfl) ?_
      refine lv_iload_n hx hb dX1_write_71 rfl (lv_at hl 2 rfl) ?_
      refine ztS_words C hP hS (by first | with_reducible assumption | with_reducible exact zt_in (by with_reducible assumption) | with_reducible exact zt_inb (by with_reducible assumption) (by with_reducible assumption)) dX1_write_72 (fun u7 H locs hu7 hP hS => ?_)
      exact zt_vret C hr hlk hP hS (by subst hu7 hu6 hu5 hu4 hu2; first | (unfold zt_write; rw [if_neg c1, if_neg c3]; done) | exact (if_neg c1).trans ((if_neg c3).trans (rfl))) dX1_write_73
    · exact zt_vret C hr hlk hP hS (by subst hu2; first | (unfold zt_write; rw [if_neg c1, if_pos c3]; done) | exact (if_neg c1).trans ((if_pos c3).trans (rfl))) dX1_write_30
  · refine lv_iload_n hx hb dX1_write_8 rfl (lv_at hl 1 rfl) ?_
    refine ztK_isWord C hl.1 (by decide) (Nat.le_of_ble_eq_true rfl) dX1_write_9 ?_
    refine lv_if_ne (tgt := 19) hx hb dX1_write_12 (by decide) (fun c8 => ?_) (fun c8 => ?_)
    · refine lv_iconst (v := 0) hx hb dX1_write_19 (by decide) ?_
      refine ztP_amiss C hP hS rfl rfl dX1_write_20 (fun u9 H locs hu9 hP hS => ?_)
      refine lv_iload_n hx hb dX1_write_23 rfl (lv_at hl 1 rfl) ?_
      refine ztK_isWord C hl.1 (by decide) (Nat.le_of_ble_eq_true rfl) dX1_write_24 ?_
      refine lv_if_ne (tgt := 31) hx hb dX1_write_27 (by decide) (fun c10 => ?_) (fun c10 => ?_)
      · refine lv_aload_n hx hb dX1_write_31 rfl (lv_at hl 0 rfl) ?_
        refine ztG_places C hP dX1_write_32 ?_
        refine lv_aload_n hx hb dX1_write_35 rfl (lv_at hl 0 rfl) ?_
        refine ztG_writes C hP dX1_write_36 ?_
        refine lv_iload_n hx hb dX1_write_39 rfl (lv_at hl 1 rfl) ?_
        refine ztS_places C hP hS (by subst hu9; exact (show vp_in (ztg_writes u) 8 from zt_in8 hN)) dX1_write_40 (fun u11 H locs hu11 hP hS => ?_)
        refine lv_aload_n hx hb dX1_write_41 rfl (lv_at hl 0 rfl) ?_
        refine ztG_before C hP dX1_write_42 ?_
        refine lv_aload_n hx hb dX1_write_45 rfl (lv_at hl 0 rfl) ?_
        refine ztG_writes C hP dX1_write_46 ?_
        refine lv_aload_n hx hb dX1_write_49 rfl (lv_at hl 0 rfl) ?_
        refine ztG_words C hP dX1_write_50 ?_
        refine lv_iload_n hx hb dX1_write_53 rfl (lv_at hl 1 rfl) ?_
        refine ztL_words C hP (by first | with_reducible assumption | with_reducible exact zt_in (by with_reducible assumption) | with_reducible exact zt_inb (by with_reducible assumption) (by with_reducible assumption)) dX1_write_54 ?_
        refine ztS_before C hP hS (by subst hu11 hu9; exact (show vp_in (ztg_writes u) 8 from zt_in8 hN)) dX1_write_55 (fun u12 H locs hu12 hP hS => ?_)
        refine lv_aload_n hx hb dX1_write_56 rfl (lv_at hl 0 rfl) ?_
        refine lv_dup hx hb dX1_write_57 rfl ?_
        refine ztG_writes C hP dX1_write_58 ?_
        refine lv_iconst (v := 1) hx hb dX1_write_61 (by decide) ?_
        refine lv_iadd hx hb dX1_write_62 ?_
        refine ztP_writes C hP hS dX1_write_63 (fun u13 H locs hu13 hP hS => ?_)
        refine lv_aload_n hx hb dX1_write_66 rfl (lv_at hl 0 rfl) ?_
        refine ztG_words C hP dX1_write_67 ?_
        refine lv_iload_n hx hb dX1_write_70 rfl (lv_at hl 1 rfl) ?_
        refine lv_iload_n hx hb dX1_write_71 rfl (lv_at hl 2 rfl) ?_
        refine ztS_words C hP hS (by first | with_reducible assumption | with_reducible exact zt_in (by with_reducible assumption) | with_reducible exact zt_inb (by with_reducible assumption) (by with_reducible assumption)) dX1_write_72 (fun u14 H locs hu14 hP hS => ?_)
        exact zt_vret C hr hlk hP hS (by subst hu14 hu13 hu12 hu11 hu9; first | (unfold zt_write; rw [if_pos c1, if_neg c8, if_neg c10]; done) | exact (if_pos c1).trans ((if_neg c8).trans ((if_neg c10).trans (rfl)))) dX1_write_73
      · exact zt_vret C hr hlk hP hS (by subst hu9; first | (unfold zt_write; rw [if_pos c1, if_neg c8, if_pos c10]; done) | exact (if_pos c1).trans ((if_neg c8).trans ((if_pos c10).trans (rfl)))) dX1_write_30
    · refine lv_iconst (v := 1) hx hb dX1_write_15 (by decide) ?_
      refine lv_goto (tgt := 20) hx hb dX1_write_16 (by decide) ?_
      refine ztP_amiss C hP hS rfl rfl dX1_write_20 (fun u15 H locs hu15 hP hS => ?_)
      refine lv_iload_n hx hb dX1_write_23 rfl (lv_at hl 1 rfl) ?_
      refine ztK_isWord C hl.1 (by decide) (Nat.le_of_ble_eq_true rfl) dX1_write_24 ?_
      refine lv_if_ne (tgt := 31) hx hb dX1_write_27 (by decide) (fun c16 => ?_) (fun c16 => ?_)
      · refine lv_aload_n hx hb dX1_write_31 rfl (lv_at hl 0 rfl) ?_
        refine ztG_places C hP dX1_write_32 ?_
        refine lv_aload_n hx hb dX1_write_35 rfl (lv_at hl 0 rfl) ?_
        refine ztG_writes C hP dX1_write_36 ?_
        refine lv_iload_n hx hb dX1_write_39 rfl (lv_at hl 1 rfl) ?_
        refine ztS_places C hP hS (by subst hu15; exact (show vp_in (ztg_writes u) 8 from zt_in8 hN)) dX1_write_40 (fun u17 H locs hu17 hP hS => ?_)
        refine lv_aload_n hx hb dX1_write_41 rfl (lv_at hl 0 rfl) ?_
        refine ztG_before C hP dX1_write_42 ?_
        refine lv_aload_n hx hb dX1_write_45 rfl (lv_at hl 0 rfl) ?_
        refine ztG_writes C hP dX1_write_46 ?_
        refine lv_aload_n hx hb dX1_write_49 rfl (lv_at hl 0 rfl) ?_
        refine ztG_words C hP dX1_write_50 ?_
        refine lv_iload_n hx hb dX1_write_53 rfl (lv_at hl 1 rfl) ?_
        refine ztL_words C hP (by first | with_reducible assumption | with_reducible exact zt_in (by with_reducible assumption) | with_reducible exact zt_inb (by with_reducible assumption) (by with_reducible assumption)) dX1_write_54 ?_
        refine ztS_before C hP hS (by subst hu17 hu15; exact (show vp_in (ztg_writes u) 8 from zt_in8 hN)) dX1_write_55 (fun u18 H locs hu18 hP hS => ?_)
        refine lv_aload_n hx hb dX1_write_56 rfl (lv_at hl 0 rfl) ?_
        refine lv_dup hx hb dX1_write_57 rfl ?_
        refine ztG_writes C hP dX1_write_58 ?_
        refine lv_iconst (v := 1) hx hb dX1_write_61 (by decide) ?_
        refine lv_iadd hx hb dX1_write_62 ?_
        refine ztP_writes C hP hS dX1_write_63 (fun u19 H locs hu19 hP hS => ?_)
        refine lv_aload_n hx hb dX1_write_66 rfl (lv_at hl 0 rfl) ?_
        refine ztG_words C hP dX1_write_67 ?_
        refine lv_iload_n hx hb dX1_write_70 rfl (lv_at hl 1 rfl) ?_
        refine lv_iload_n hx hb dX1_write_71 rfl (lv_at hl 2 rfl) ?_
        refine ztS_words C hP hS (by first | with_reducible assumption | with_reducible exact zt_in (by with_reducible assumption) | with_reducible exact zt_inb (by with_reducible assumption) (by with_reducible assumption)) dX1_write_72 (fun u20 H locs hu20 hP hS => ?_)
        exact zt_vret C hr hlk hP hS (by subst hu20 hu19 hu18 hu17 hu15; first | (unfold zt_write; rw [if_pos c1, if_pos c8, if_neg c16]; done) | exact (if_pos c1).trans ((if_pos c8).trans ((if_neg c16).trans (rfl)))) dX1_write_73
      · exact zt_vret C hr hlk hP hS (by subst hu15; first | (unfold zt_write; rw [if_pos c1, if_pos c8, if_pos c16]; done) | exact (if_pos c1).trans ((if_pos c8).trans ((if_pos c16).trans (rfl)))) dX1_write_30
section
variable {p : Program} {l : Launch} {e : Env} {R : Room} {s : State} {m : MethodId} {args : Array Value} {below : List Frame} {meth : Method} {c : Code} {H : Heap} {locs : List Loc} {Q : State → Prop} {cc : ByteArray} {pc nL : Nat} {ls : Array Slot} {rest : List Value} {k : Ztk} {u : Zts} {H0 : Heap}
set_option maxHeartbeats 4000000 in
set_option maxRecDepth 100000 in
theorem ztK_write {a1 a2 : Int32} (C : ZtC p s m args c cc nL k) (hP : ZtP k u H) (hS : va_S (ZtA k) H0 H locs) (hsz : ls.size = nL) (hR : 1 + 1 ≤ R.frames ∧ 8 + (3 + 11) + 40 * 1 ≤ R.locals) (hw : (rest.map fun v => v.category).sum ≤ 8) {w0 : Nat → Int32} (hN : ZtG w0 7 u) (hdg : decode cc pc = .ok (.invokevirtual 68, 3)) (kk : ∀ (u1 : Zts) (H1 : Heap) (locs1 : List Loc), u1 = zt_write u a1 a2 → ZtP k u1 H1 → va_S (ZtA k) H0 H1 locs1 → W p l e R s m args below meth c H1 locs1 0 0 Q (F0 m (pc + 3) ls (rest))) : W p l e R s m args below meth c H locs 0 0 Q (F0 m pc ls (.int a2 :: .int a1 :: .ref (zta_this k) :: rest)) :=
  zt_callV (y := yX1_write) (n := 2) (As := [.int a1, .int a2]) C (ztM_write l k C.2.2 u a1 a2 hN) zwT_c_write zwT_l_write zwT_i_write zwT_v_write rfl (by decide +kernel) hP hS hsz hR hw rfl hdg (fun H1 locs1 hP1 hS1 => kk _ H1 locs1 rfl hP1 hS1)
end

theorem zupd_back (w : Nat → Int32) (a : Nat) (v : Int32) : upd (upd w a v) a (w a) = w := by
  funext j
  unfold upd
  by_cases h : j = a
  · rw [if_pos h, h]
  · rw [if_neg h, if_neg h]
/-- the road of write on which the word is there -/
def zt_wr (w : Zts) (a1 a2 : Int32) : Zts :=
  let u4 := zts_places w (upd (ztg_places w) (ztg_writes w).toNatClampNeg a1)
  let u5 := zts_before u4 (upd (ztg_before u4) (ztg_writes u4).toNatClampNeg (ztg_words u4 a1.toNatClampNeg))
  let u6 := zts_writes u5 ((ztg_writes u5) + 1)
  let u7 := zts_words u6 (upd (ztg_words u6) a1.toNatClampNeg a2)
  u7
theorem zt_G_wr {w0 : Nat → Int32} {n : Nat} (w : Zts) (a1 a2 : Int32) (hn : n < 8) (h : ZtG w0 n w) (hw : ¬ zt_isWord a1 = 0) : ZtG w0 (n + 1) (zt_wr w a1 a2) := by
  obtain ⟨j, h1, h2, h3, h4⟩ := h
  obtain ⟨q, hq, rfl⟩ := vp_in_of (zt_in hw) (by decide)
  have hc : (ztg_writes w).toNatClampNeg = j := by rw [h2]; exact nI_clamp (by omega)
  have hqc : (nI q).toNatClampNeg = q := nI_clamp (by omega)
  refine ⟨j + 1, by omega, ?_, ?_, ?_⟩
  · show ztg_writes w + 1 = nI (j + 1)
    rw [h2, nI_succ]
  · intro i hi
    show ∃ q : Nat, q < 256 ∧ upd (ztg_places w) (ztg_writes w).toNatClampNeg _ i = nI q
    rw [hc]
    by_cases e : i = j
    · exact ⟨q, hq, by rw [e]; exact pk_us⟩
    · obtain ⟨q2, g1, g2⟩ := h3 i (by omega)
      exact ⟨q2, g1, by rw [pk_un e]; exact g2⟩
  · show zundo (upd (ztg_places w) (ztg_writes w).toNatClampNeg (nI q)) (upd (ztg_before w) (ztg_writes w).toNatClampNeg (ztg_words w (nI q).toNatClampNeg)) (j + 1) (upd (ztg_words w) (nI q).toNatClampNeg a2) = w0
    rw [hc, hqc]
    unfold zundo
    rw [pk_us, pk_us, hqc, zupd_back]
    rw [← h4]
    exact zundo_congr j _ (fun i hi => ⟨pk_un (by omega), pk_un (by omega)⟩)
set_option maxHeartbeats 4000000 in
theorem zt_G_write {w0 : Nat → Int32} {n : Nat} {u : Zts} (a1 a2 : Int32) (hn : n < 8) (h : ZtG w0 n u) : ZtG w0 (n + 1) (zt_write u a1 a2) := by
  have low : ∀ b : Int32, ZtG w0 (n + 1) (zts_amiss u b) := fun b => zt_Gle (Nat.le_succ n) h
  unfold zt_write
  by_cases h1 : ztg_amiss u = 0
  · rw [if_pos h1]
    by_cases h2 : zt_isWord a1 = 0
    · rw [if_pos h2, if_pos h2]; exact low 1
    · rw [if_neg h2, if_neg h2]; exact zt_G_wr (zts_amiss u 0) a1 a2 hn h h2
  · rw [if_neg h1]
    by_cases h2 : zt_isWord a1 = 0
    · rw [if_pos h2]; exact low 1
    · rw [if_neg h2]; exact zt_G_wr (zts_amiss u 1) a1 a2 hn h h2

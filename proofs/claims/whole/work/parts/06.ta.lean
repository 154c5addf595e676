def zt_isWord (a1 : Int32) : Int32 :=
  if a1 < 0 then (
    0)
  else (
    if 256 ≤ a1 then (
      0)
    else (
      1))
set_option maxHeartbeats 4000000 in
set_option maxRecDepth 100000 in
theorem ztM_isWord (l : Launch) (a1 : Int32) : Met l yX1_isWord (.code yX1_isWord cX1_isWord 1 (some .boolean) :: zwT) (zrm 0) (fun a _ => a = ([.int a1] : List Value).toArray) (QcRead (zt_isWord a1)) 0 0 (fun _ => False) := by
  refine z_enterS (by decide) (Nat.le_of_ble_eq_true rfl) ?_
  intro p e s m below meth c ls hx hb hr hlk hl
  have hl : lv_has ls 1 [(0, .int a1)] := hl
  refine lv_iload_n hx hb dX1_isWord_0 rfl (lv_at hl 0 rfl) ?_
  refine lv_if_lt (tgt := 15) hx hb dX1_isWord_1 (by decide) (fun c1 => ?_) (fun c1 => ?_)
  · refine lv_iconst (v := 0) hx hb dX1_isWord_15 (by decide) ?_
    exact z_sret hx hb hr rfl hlk (by exact (if_pos c1).trans (rfl)) dX1_isWord_16
  · refine lv_iload_n hx hb dX1_isWord_4 rfl (lv_at hl 0 rfl) ?_
    refine lv_sipush (v := 256) hx hb dX1_isWord_5 (by decide) ?_
    refine lv_icmp_ge (tgt := 15) hx hb dX1_isWord_8 (by decide) (fun c2 => ?_) (fun c2 => ?_)
    · refine lv_iconst (v := 0) hx hb dX1_isWord_15 (by decide) ?_
      exact z_sret hx hb hr rfl hlk (by exact (if_neg c1).trans ((if_pos c2).trans (rfl))) dX1_isWord_16
    · refine lv_iconst (v := 1) hx hb dX1_isWord_11 (by decide) ?_
      refine lv_goto (tgt := 16) hx hb dX1_isWord_12 (by decide) ?_
      exact z_sret hx hb hr rfl hlk (by exact (if_neg c1).trans ((if_neg c2).trans (rfl))) dX1_isWord_16
section
variable {p : Program} {l : Launch} {e : Env} {R : Room} {s : State} {m : MethodId} {args : Array Value} {below : List Frame} {meth : Method} {c : Code} {H : Heap} {locs : List Loc} {Q : State → Prop} {cc : ByteArray} {pc nL : Nat} {ls : Array Slot} {rest : List Value} {k : Ztk} {u : Zts} {H0 : Heap}
set_option maxHeartbeats 4000000 in
set_option maxRecDepth 100000 in
theorem ztK_isWord {a1 : Int32} (C : ZtC p s m args c cc nL k) (hsz : ls.size = nL) (hR : 0 + 1 ≤ R.frames ∧ 8 + (1 + 11) + 40 * 0 ≤ R.locals) (hw : (rest.map fun v => v.category).sum ≤ 8) (hdg : decode cc pc = .ok (.invokestatic 26, 3)) (kk : W p l e R s m args below meth c H locs 0 0 Q (F0 m (pc + 3) ls (.int (zt_isWord a1) :: rest))) : W p l e R s m args below meth c H locs 0 0 Q (F0 m pc ls (.int a1 :: rest)) :=
  zt_callS (y := yX1_isWord) (n := 1) C (ztM_isWord l a1 ) zwT_c_isWord zwT_l_isWord zwT_s_isWord rfl (by decide +kernel) hsz hR hw rfl hdg kk
end
def zt_signed (a1 a2 : Int32) : Int32 :=
  (a1 <<< ((32 - a2) &&& 31)) >>> ((32 - a2) &&& 31)
set_option maxHeartbeats 4000000 in
set_option maxRecDepth 100000 in
theorem ztM_signed (l : Launch) (a1 a2 : Int32) : Met l yX1_signed (.code yX1_signed cX1_signed 2 (some .int) :: zwT) (zrm 0) (fun a _ => a = ([.int a1, .int a2] : List Value).toArray) (QcRead (zt_signed a1 a2)) 0 0 (fun _ => False) := by
  refine z_enterS (by decide) (Nat.le_of_ble_eq_true rfl) ?_
  intro p e s m below meth c ls hx hb hr hlk hl
  have hl : lv_has ls 2 [(0, .int a1), (1, .int a2)] := hl
  refine lv_iload_n hx hb dX1_signed_0 rfl (lv_at hl 0 rfl) ?_
  refine lv_bipush (v := 32) hx hb dX1_signed_1 (by decide) ?_
  refine lv_iload_n hx hb dX1_signed_3 rfl (lv_at hl 1 rfl) ?_
  refine lv_isub hx hb dX1_signed_4 ?_
  refine lv_ishl hx hb dX1_signed_5 ?_
  refine lv_bipush (v := 32) hx hb dX1_signed_6 (by decide) ?_
  refine lv_iload_n hx hb dX1_signed_8 rfl (lv_at hl 1 rfl) ?_
  refine lv_isub hx hb dX1_signed_9 ?_
  refine lv_ishr hx hb dX1_signed_10 ?_
  exact z_sret hx hb hr rfl hlk (by exact rfl) dX1_signed_11
section
variable {p : Program} {l : Launch} {e : Env} {R : Room} {s : State} {m : MethodId} {args : Array Value} {below : List Frame} {meth : Method} {c : Code} {H : Heap} {locs : List Loc} {Q : State → Prop} {cc : ByteArray} {pc nL : Nat} {ls : Array Slot} {rest : List Value} {k : Ztk} {u : Zts} {H0 : Heap}
set_option maxHeartbeats 4000000 in
set_option maxRecDepth 100000 in
theorem ztK_signed {a1 a2 : Int32} (C : ZtC p s m args c cc nL k) (hsz : ls.size = nL) (hR : 0 + 1 ≤ R.frames ∧ 8 + (2 + 11) + 40 * 0 ≤ R.locals) (hw : (rest.map fun v => v.category).sum ≤ 8) (hdg : decode cc pc = .ok (.invokestatic 88, 3)) (kk : W p l e R s m args below meth c H locs 0 0 Q (F0 m (pc + 3) ls (.int (zt_signed a1 a2) :: rest))) : W p l e R s m args below meth c H locs 0 0 Q (F0 m pc ls (.int a2 :: .int a1 :: rest)) :=
  zt_callS (y := yX1_signed) (n := 2) C (ztM_signed l a1 a2 ) zwT_c_signed zwT_l_signed zwT_s_signed rfl (by decide +kernel) hsz hR hw rfl hdg kk
end

theorem zt_in {x : Int32} (h : ¬ zt_isWord x = 0) : vp_in x 256 := by
  unfold zt_isWord at h
  by_cases a : x < 0
  · rw [if_pos a] at h; exact absurd rfl h
  rw [if_neg a] at h
  by_cases b : 256 ≤ x
  · rw [if_pos b] at h; exact absurd rfl h
  obtain ⟨q, hq, rfl⟩ := nI_of a
  exact vp_in_nI (Nat.lt_of_not_le (fun g => b (nI_le g hq))) (by decide)
theorem zt_inb {x : Int32} (a : ¬ x < 0) (b : ¬ 512 ≤ x) : vp_in x 512 := by
  obtain ⟨q, hq, rfl⟩ := nI_of a
  exact vp_in_nI (Nat.lt_of_not_le (fun g => b (nI_le g hq))) (by decide)
/-- the words as they were before the last j writes, by the notes of places and of what stood there -/
def zundo (pl bf : Nat → Int32) : Nat → (Nat → Int32) → (Nat → Int32)
  | 0, w => w
  | j + 1, w => zundo pl bf j (upd w (pl j).toNatClampNeg (bf j))
theorem zundo_congr {pl bf pl' bf' : Nat → Int32} : ∀ (j : Nat) (w : Nat → Int32), (∀ i, i < j → pl i = pl' i ∧ bf i = bf' i) → zundo pl bf j w = zundo pl' bf' j w
  | 0, _, _ => rfl
  | j + 1, w, h => by
    unfold zundo
    rw [(h j (Nat.lt_succ_self j)).1, (h j (Nat.lt_succ_self j)).2]
    exact zundo_congr j _ (fun i hi => h i (Nat.lt_succ_of_lt hi))
/-- at most n writes are noted, at places that are there, and undoing them gives the words w0 -/
def ZtG (w0 : Nat → Int32) (n : Nat) (u : Zts) : Prop := ∃ j : Nat, j ≤ n ∧ ztg_writes u = nI j ∧ (∀ i, i < j → ∃ q : Nat, q < 256 ∧ ztg_places u i = nI q) ∧ zundo (ztg_places u) (ztg_before u) j (ztg_words u) = w0
theorem zt_Gle {w0 : Nat → Int32} {m n : Nat} {u : Zts} (h : m ≤ n) (g : ZtG w0 m u) : ZtG w0 n u := by
  obtain ⟨j, h1, h2⟩ := g
  exact ⟨j, Nat.le_trans h1 h, h2⟩
theorem zt_in8 {w0 : Nat → Int32} {u : Zts} (h : ZtG w0 7 u) : vp_in (ztg_writes u) 8 := by
  obtain ⟨j, h1, h2, -⟩ := h
  rw [h2]
  exact vp_in_nI (by omega) (by decide)
theorem zt_Gs_thrown {w0 : Nat → Int32} {n : Nat} {u : Zts} (v : Int32) (h : ZtG w0 n u) : ZtG w0 n (zts_thrown u v) := h
theorem zt_Gs_pc {w0 : Nat → Int32} {n : Nat} {u : Zts} (v : Int32) (h : ZtG w0 n u) : ZtG w0 n (zts_pc u v) := h
theorem zt_Gs_sp {w0 : Nat → Int32} {n : Nat} {u : Zts} (v : Int32) (h : ZtG w0 n u) : ZtG w0 n (zts_sp u v) := h
theorem zt_Gs_lv {w0 : Nat → Int32} {n : Nat} {u : Zts} (v : Int32) (h : ZtG w0 n u) : ZtG w0 n (zts_lv u v) := h
theorem zt_Gs_cpp {w0 : Nat → Int32} {n : Nat} {u : Zts} (v : Int32) (h : ZtG w0 n u) : ZtG w0 n (zts_cpp u v) := h
theorem zt_Gs_top {w0 : Nat → Int32} {n : Nat} {u : Zts} (v : Int32) (h : ZtG w0 n u) : ZtG w0 n (zts_top u v) := h
theorem zt_Gs_state {w0 : Nat → Int32} {n : Nat} {u : Zts} (v : Int32) (h : ZtG w0 n u) : ZtG w0 n (zts_state u v) := h
theorem zt_Gs_cycles {w0 : Nat → Int32} {n : Nat} {u : Zts} (v : Int32) (h : ZtG w0 n u) : ZtG w0 n (zts_cycles u v) := h
theorem zt_Gs_done {w0 : Nat → Int32} {n : Nat} {u : Zts} (v : Int32) (h : ZtG w0 n u) : ZtG w0 n (zts_done u v) := h
theorem zt_Gs_next {w0 : Nat → Int32} {n : Nat} {u : Zts} (v : Int32) (h : ZtG w0 n u) : ZtG w0 n (zts_next u v) := h
theorem zt_Gs_amiss {w0 : Nat → Int32} {n : Nat} {u : Zts} (v : Int32) (h : ZtG w0 n u) : ZtG w0 n (zts_amiss u v) := h
theorem zt_Gs_unknown {w0 : Nat → Int32} {n : Nat} {u : Zts} (v : Int32) (h : ZtG w0 n u) : ZtG w0 n (zts_unknown u v) := h
def zt_read (u : Zts) (a1 : Int32) : Int32 × Zts :=
  if (ztg_amiss u) = 0 then (
    if (zt_isWord a1) = 0 then (
      let u7 := zts_amiss u 1
      if (zt_isWord a1) = 0 then (
        (0, u7))
      else (
        (ztg_words u7 a1.toNatClampNeg, u7)))
    else (
      let u5 := zts_amiss u 0
      if (zt_isWord a1) = 0 then (
        (0, u5))
      else (
        (ztg_words u5 a1.toNatClampNeg, u5))))
  else (
    let u2 := zts_amiss u 1
    if (zt_isWord a1) = 0 then (
      (0, u2))
    else (
      (ztg_words u2 a1.toNatClampNeg, u2)))
set_option maxHeartbeats 4000000 in
set_option maxRecDepth 100000 in
theorem ztM_read (l : Launch) (k : Ztk) (Dk : ZtD k) (u : Zts) (a1 : Int32) : Met l yX1_read (.code yX1_read cX1_read 2 (some .int) :: zwT) (zrm 1) (ZtB k [.ref (zta_this k), .int a1] u) (ZtQ k (some (.int (zt_read u a1).1)) (zt_read u a1).2) 0 0 (ZtA k) := by
  refine ztE_in (by decide) rfl (Nat.le_of_ble_eq_true rfl) Dk ?_
  intro p e s m below meth c ls C hr hlk hP hl
  have hx := C.1.1
  have hb := C.1.2.1
  have hl : lv_has ls 2 [(0, .ref (zta_this k)), (1, .int a1)] := hl
  have hS : va_S (ZtA k) s.heap s.heap [] := va_S.rf
  refine lv_aload_n hx hb dX1_read_0 rfl (lv_at hl 0 rfl) ?_
  refine lv_aload_n hx hb dX1_read_1 rfl (lv_at hl 0 rfl) ?_
  refine ztG_amiss C hP dX1_read_2 ?_
  refine lv_if_ne (tgt := 15) hx hb dX1_read_5 (by decide) (fun c1 => ?_) (fun c1 => ?_)
  · refine lv_iconst (v := 1) hx hb dX1_read_15 (by decide) ?_
    refine lv_goto (tgt := 20) hx hb dX1_read_16 (by decide) ?_
    refine ztP_amiss C hP hS rfl rfl dX1_read_20 (fun u2 H locs hu2 hP hS => ?_)
    refine lv_iload_n hx hb dX1_read_23 rfl (lv_at hl 1 rfl) ?_
    refine ztK_isWord C hl.1 (by decide) (Nat.le_of_ble_eq_true rfl) dX1_read_24 ?_
    refine lv_if_eq (tgt := 39) hx hb dX1_read_27 (by decide) (fun c3 => ?_) (fun c3 => ?_)
    · refine lv_iconst (v := 0) hx hb dX1_read_39 (by decide) ?_
      exact zt_iret C hr hlk hP hS (by subst hu2; exact (if_neg c1).trans ((if_pos c3).trans (rfl))) dX1_read_40
    · refine lv_aload_n hx hb dX1_read_30 rfl (lv_at hl 0 rfl) ?_
      refine ztG_words C hP dX1_read_31 ?_
      refine lv_iload_n hx hb dX1_read_34 rfl (lv_at hl 1 rfl) ?_
      refine ztL_words C hP (by first | with_reducible assumption | with_reducible exact zt_in (by with_reducible assumption) | with_reducible exact zt_inb (by with_reducible assumption) (by with_reducible assumption)) dX1_read_35 ?_
      refine lv_goto (tgt := 40) hx hb dX1_read_36 (by decide) ?_
      exact zt_iret C hr hlk hP hS (by subst hu2; exact (if_neg c1).trans ((if_neg c3).trans (rfl))) dX1_read_40
  · refine lv_iload_n hx hb dX1_read_8 rfl (lv_at hl 1 rfl) ?_
    refine ztK_isWord C hl.1 (by decide) (Nat.le_of_ble_eq_true rfl) dX1_read_9 ?_
    refine lv_if_ne (tgt := 19) hx hb dX1_read_12 (by decide) (fun c4 => ?_) (fun c4 => ?_)
    · refine lv_iconst (v := 0) hx hb dX1_read_19 (by decide) ?_
      refine ztP_amiss C hP hS rfl rfl dX1_read_20 (fun u5 H locs hu5 hP hS => ?_)
      refine lv_iload_n hx hb dX1_read_23 rfl (lv_at hl 1 rfl) ?_
      refine ztK_isWord C hl.1 (by decide) (Nat.le_of_ble_eq_true rfl) dX1_read_24 ?_
      refine lv_if_eq (tgt := 39) hx hb dX1_read_27 (by decide) (fun c6 => ?_) (fun c6 => ?_)
      · refine lv_iconst (v := 0) hx hb dX1_read_39 (by decide) ?_
        exact zt_iret C hr hlk hP hS (by subst hu5; exact (if_pos c1).trans ((if_neg c4).trans ((if_pos c6).trans (rfl)))) dX1_read_40
      · refine lv_aload_n hx hb dX1_read_30 rfl (lv_at hl 0 rfl) ?_
        refine ztG_words C hP dX1_read_31 ?_
        refine lv_iload_n hx hb dX1_read_34 rfl (lv_at hl 1 rfl) ?_
        refine ztL_words C hP (by first | with_reducible assumption | with_reducible exact zt_in (by with_reducible assumption) | with_reducible exact zt_inb (by with_reducible assumption) (by with_reducible assumption)) dX1_read_35 ?_
        refine lv_goto (tgt := 40) hx hb dX1_read_36 (by decide) ?_
        exact zt_iret C hr hlk hP hS (by subst hu5; exact (if_pos c1).trans ((if_neg c4).trans ((if_neg c6).trans (rfl)))) dX1_read_40
    · refine lv_iconst (v := 1) hx hb dX1_read_15 (by decide) ?_
      refine lv_goto (tgt := 20) hx hb dX1_read_16 (by decide) ?_
      refine ztP_amiss C hP hS rfl rfl dX1_read_20 (fun u7 H locs hu7 hP hS => ?_)
      refine lv_iload_n hx hb dX1_read_23 rfl (lv_at hl 1 rfl) ?_
      refine ztK_isWord C hl.1 (by decide) (Nat.le_of_ble_eq_true rfl) dX1_read_24 ?_
      refine lv_if_eq (tgt := 39) hx hb dX1_read_27 (by decide) (fun c8 => ?_) (fun c8 => ?_)
      · refine lv_iconst (v := 0) hx hb dX1_read_39 (by decide) ?_
        exact zt_iret C hr hlk hP hS (by subst hu7; exact (if_pos c1).trans ((if_pos c4).trans ((if_pos c8).trans (rfl)))) dX1_read_40
      · refine lv_aload_n hx hb dX1_read_30 rfl (lv_at hl 0 rfl) ?_
        refine ztG_words C hP dX1_read_31 ?_
        refine lv_iload_n hx hb dX1_read_34 rfl (lv_at hl 1 rfl) ?_
        refine ztL_words C hP (by first | with_reducible assumption | with_reducible exact zt_in (by with_reducible assumption) | with_reducible exact zt_inb (by with_reducible assumption) (by with_reducible assumption)) dX1_read_35 ?_
        refine lv_goto (tgt := 40) hx hb dX1_read_36 (by decide) ?_
        exact zt_iret C hr hlk hP hS (by subst hu7; exact (if_pos c1).trans ((if_pos c4).trans ((if_neg c8).trans (rfl)))) dX1_read_40
section
variable {p : Program} {l : Launch} {e : Env} {R : Room} {s : State} {m : MethodId} {args : Array Value} {below : List Frame} {meth : Method} {c : Code} {H : Heap} {locs : List Loc} {Q : State → Prop} {cc : ByteArray} {pc nL : Nat} {ls : Array Slot} {rest : List Value} {k : Ztk} {u : Zts} {H0 : Heap}
set_option maxHeartbeats 4000000 in
set_option maxRecDepth 100000 in
theorem ztK_read {a1 : Int32} (C : ZtC p s m args c cc nL k) (hP : ZtP k u H) (hS : va_S (ZtA k) H0 H locs) (hsz : ls.size = nL) (hR : 1 + 1 ≤ R.frames ∧ 8 + (2 + 11) + 40 * 1 ≤ R.locals) (hw : (rest.map fun v => v.category).sum ≤ 8) (hdg : decode cc pc = .ok (.invokevirtual 65, 3)) (kk : ∀ (r1 : Int32) (u1 : Zts) (H1 : Heap) (locs1 : List Loc), r1 = (zt_read u a1).1 → u1 = (zt_read u a1).2 → ZtP k u1 H1 → va_S (ZtA k) H0 H1 locs1 → W p l e R s m args below meth c H1 locs1 0 0 Q (F0 m (pc + 3) ls (.int r1 :: rest))) : W p l e R s m args below meth c H locs 0 0 Q (F0 m pc ls (.int a1 :: .ref (zta_this k) :: rest)) :=
  zt_callV (y := yX1_read) (n := 1) (As := [.int a1]) C (ztM_read l k C.2.2 u a1 ) zwT_c_read zwT_l_read zwT_i_read zwT_v_read rfl (by decide +kernel) hP hS hsz hR hw rfl hdg (fun H1 locs1 hP1 hS1 => kk _ _ H1 locs1 rfl rfl hP1 hS1)
end
theorem zt_G_read {w0 : Nat → Int32} {n : Nat} {u : Zts} (a1 : Int32) (h : ZtG w0 n u) : ZtG w0 (n + 0) (zt_read u a1).2 := by
  unfold zt_read
  dsimp only
  repeat' split
  all_goals first | exact zt_Gle (by omega) (zt_Gs_amiss _ (h))
def zt_write (u : Zts) (a1 a2 : Int32) : Zts :=
  if (ztg_amiss u) = 0 then (
    if (zt_isWord a1) = 0 then (
      let u15 := zts_amiss u 1
      if (zt_isWord a1) = 0 then (
        u15)
      else (
        let u17 := zts_places u15 (upd (ztg_places u15) (ztg_writes u15).toNatClampNeg a1)
        let u18 := zts_before u17 (upd (ztg_before u17) (ztg_writes u17).toNatClampNeg (ztg_words u17 a1.toNatClampNeg))
        let u19 := zts_writes u18 ((ztg_writes u18) + 1)
        let u20 := zts_words u19 (upd (ztg_words u19) a1.toNatClampNeg a2)
        u20))
    else (
      let u9 := zts_amiss u 0
      if (zt_isWord a1) = 0 then (
        u9)
      else (
        let u11 := zts_places u9 (upd (ztg_places u9) (ztg_writes u9).toNatClampNeg a1)
        let u12 := zts_before u11 (upd (ztg_before u11) (ztg_writes u11).toNatClampNeg (ztg_words u11 a1.toNatClampNeg))
        let u13 := zts_writes u12 ((ztg_writes u12) + 1)
        let u14 := zts_words u13 (upd (ztg_words u13) a1.toNatClampNeg a2)
        u14)))
  else (
    let u2 := zts_amiss u 1
    if (zt_isWord a1) = 0 then (
      u2)
    else (
      let u4 := zts_places u2 (upd (ztg_places u2) (ztg_writes u2).toNatClampNeg a1)
      let u5 := zts_before u4 (upd (ztg_before u4) (ztg_writes u4).toNatClampNeg (ztg_words u4 a1.toNatClampNeg))
      let u6 := zts_writes u5 ((ztg_writes u5) + 1)
      let u7 := zts_words u6 (upd (ztg_words u6) a1.toNatClampNeg a2)
      u7))
set_option maxHeartbeats 4000000 in
set_option maxRecDepth 100000 in
theorem ztM_write (l : Launch) (k : Ztk) (Dk : ZtD k) (u : Zts) (a1 a2 : Int32) {w0 : Nat → Int32} (hN : ZtG w0 7 u) : Met l yX1_write (.code yX1_write cX1_write 3 none :: zwT) (zrm 1) (ZtB k [.ref (zta_this k), .int a1, .int a2] u) (ZtQ k none (zt_write u a1 a2)) 0 0 (ZtA k) := by
  refine ztE_in (by decide) rfl (Nat.le_of_ble_eq_true rfl) Dk ?_
  intro p e s m below meth c ls C hr hlk hP hl
  have hx := C.1.1
  have hb := C.1.2.1
  have hl : lv_has ls 3 [(0, .ref (zta_this k)), (1, .int a1), (2, .int a2)] := hl
  have hS : va_S (ZtA k) s.heap s.heap [] := va_S.rf
  refine lv_aload_n hx hb dX1_write_0 rfl (lv_at hl 0 rfl) ?_
  refine lv_aload_n hx hb dX1_write_1 rfl (lv_at hl 0 rfl) ?_
  refine ztG_amiss C hP dX1_write_2 ?_
  refine lv_if_ne (tgt := 15) hx hb dX1_write_5 (by decide) (fun c1 => ?_) (fun c1 => ?_)
  · refine lv_iconst (v := 1) hx hb dX1_write_15 (by decide) ?_
    refine lv_goto (tgt := 20) hx hb dX1_write_16 (by decide) ?_
    refine ztP_amiss C hP hS rfl rfl dX1_write_20 (fun u2 H locs hu2 hP hS => ?_)
    refine lv_iload_n hx hb dX1_write_23 rfl (lv_at hl 1 rfl) ?_
    refine ztK_isWord C hl.1 (by decide) (Nat.le_of_ble_eq_true rfl) dX1_write_24 ?_
    refine lv_if_ne (tgt := 31) hx hb dX1_write_27 (by decide) (fun c3 => ?_) (fun c3 => ?_)
    · refine lv_aload_n hx hb dX1_write_31 rfl (lv_at hl 0 rfl) ?_
      refine ztG_places C hP dX1_write_32 ?_
      refine lv_aload_n hx hb dX1_write_35 rfl (lv_at hl 0 rfl) ?_
      refine ztG_writes C hP dX1_write_36 ?_
      refine lv_iload_n hx hb dX1_write_39 rfl (lv_at hl 1 rfl) ?_
      refine ztS_places C hP hS (by subst hu2; exact zt_in8 hN) dX1_write_40 (fun u4 H locs hu4 hP hS => ?_)
      refine lv_aload_n hx hb dX1_write_41 rfl (lv_at hl 0 rfl) ?_
      refine ztG_before C hP dX1_write_42 ?_
      refine lv_aload_n hx hb dX1_write_45 rfl (lv_at hl 0 rfl) ?_
      refine ztG_writes C hP dX1_write_46 ?_
      refine lv_aload_n hx hb dX1_write_49 rfl (lv_at hl 0 rfl) ?_
      refine ztG_words C hP dX1_write_50 ?_
      refine lv_iload_n hx hb dX1_write_53 rfl (lv_at hl 1 rfl) ?_
      refine ztL_words C hP (by first | with_reducible assumption | with_reducible exact zt_in (by with_reducible assumption) | with_reducible exact zt_inb (by with_reducible assumption) (by with_reducible assumption)) dX1_write_54 ?_
      refine ztS_before C hP hS (by subst hu2 hu4; exact zt_in8 hN) dX1_write_55 (fun u5 H locs hu5 hP hS => ?_)
      refine lv_aload_n hx hb dX1_write_56 rfl (lv_at hl 0 rfl) ?_
      refine lv_dup hx hb dX1_write_57 rfl ?_
      refine ztG_writes C hP dX1_write_58 ?_
      refine lv_iconst (v := 1) hx hb dX1_write_61 (by decide) ?_
      refine lv_iadd hx hb dX1_write_62 ?_
      refine ztP_writes C hP hS dX1_write_63 (fun u6 H locs hu6 hP hS => ?_)
      refine lv_aload_n hx hb dX1_write_66 rfl (lv_at hl 0 rfl) ?_
      refine ztG_words C hP dX1_write_67 ?_
      refine lv_iload_n hx hb dX1_write_70 rfl (lv_at hl 1 rfl) ?_
      refine lv_iload_n hx hb dX1_write_71 rfl (lv_at hl 2 rfl) ?_
      refine ztS_words C hP hS (by first | with_reducible assumption | with_reducible exact zt_in (by with_reducible assumption) | with_reducible exact zt_inb (by with_reducible assumption) (by with_reducible assumption)) dX1_write_72 (fun u7 H locs hu7 hP hS => ?_)
      exact zt_vret C hr hlk hP hS (by subst hu2 hu4 hu5 hu6 hu7; exact (if_neg c1).trans ((if_neg c3).trans (rfl))) dX1_write_73
    · exact zt_vret C hr hlk hP hS (by subst hu2; exact (if_neg c1).trans ((if_pos c3).trans (rfl))) dX1_write_30
  · refine lv_iload_n hx hb dX1_write_8 rfl (lv_at hl 1 rfl) ?_
    refine ztK_isWord C hl.1 (by decide) (Nat.le_of_ble_eq_true rfl) dX1_write_9 ?_
    refine lv_if_ne (tgt := 19) hx hb dX1_write_12 (by decide) (fun c8 => ?_) (fun c8 => ?_)
    · refine lv_iconst (v := 0) hx hb dX1_write_19 (by decide) ?_
      refine ztP_amiss C hP hS rfl rfl dX1_write_20 (fun u9 H locs hu9 hP hS => ?_)
      refine lv_iload_n hx hb dX1_write_23 rfl (lv_at hl 1 rfl) ?_
      refine ztK_isWord C hl.1 (by decide) (Nat.le_of_ble_eq_true rfl) dX1_write_24 ?_
      refine lv_if_ne (tgt := 31) hx hb dX1_write_27 (by decide) (fun c10 => ?_) (fun c10 => ?_)
      · refine lv_aload_n hx hb dX1_write_31 rfl (lv_at hl 0 rfl) ?_
        refine ztG_places C hP dX1_write_32 ?_
        refine lv_aload_n hx hb dX1_write_35 rfl (lv_at hl 0 rfl) ?_
        refine ztG_writes C hP dX1_write_36 ?_
        refine lv_iload_n hx hb dX1_write_39 rfl (lv_at hl 1 rfl) ?_
        refine ztS_places C hP hS (by subst hu9; exact zt_in8 hN) dX1_write_40 (fun u11 H locs hu11 hP hS => ?_)
        refine lv_aload_n hx hb dX1_write_41 rfl (lv_at hl 0 rfl) ?_
        refine ztG_before C hP dX1_write_42 ?_
        refine lv_aload_n hx hb dX1_write_45 rfl (lv_at hl 0 rfl) ?_
        refine ztG_writes C hP dX1_write_46 ?_
        refine lv_aload_n hx hb dX1_write_49 rfl (lv_at hl 0 rfl) ?_
        refine ztG_words C hP dX1_write_50 ?_
        refine lv_iload_n hx hb dX1_write_53 rfl (lv_at hl 1 rfl) ?_
        refine ztL_words C hP (by first | with_reducible assumption | with_reducible exact zt_in (by with_reducible assumption) | with_reducible exact zt_inb (by with_reducible assumption) (by with_reducible assumption)) dX1_write_54 ?_
        refine ztS_before C hP hS (by subst hu9 hu11; exact zt_in8 hN) dX1_write_55 (fun u12 H locs hu12 hP hS => ?_)
        refine lv_aload_n hx hb dX1_write_56 rfl (lv_at hl 0 rfl) ?_
        refine lv_dup hx hb dX1_write_57 rfl ?_
        refine ztG_writes C hP dX1_write_58 ?_
        refine lv_iconst (v := 1) hx hb dX1_write_61 (by decide) ?_
        refine lv_iadd hx hb dX1_write_62 ?_
        refine ztP_writes C hP hS dX1_write_63 (fun u13 H locs hu13 hP hS => ?_)
        refine lv_aload_n hx hb dX1_write_66 rfl (lv_at hl 0 rfl) ?_
        refine ztG_words C hP dX1_write_67 ?_
        refine lv_iload_n hx hb dX1_write_70 rfl (lv_at hl 1 rfl) ?_
        refine lv_iload_n hx hb dX1_write_71 rfl (lv_at hl 2 rfl) ?_
        refine ztS_words C hP hS (by first | with_reducible assumption | with_reducible exact zt_in (by with_reducible assumption) | with_reducible exact zt_inb (by with_reducible assumption) (by with_reducible assumption)) dX1_write_72 (fun u14 H locs hu14 hP hS => ?_)
        exact zt_vret C hr hlk hP hS (by subst hu9 hu11 hu12 hu13 hu14; exact (if_pos c1).trans ((if_neg c8).trans ((if_neg c10).trans (rfl)))) dX1_write_73
      · exact zt_vret C hr hlk hP hS (by subst hu9; exact (if_pos c1).trans ((if_neg c8).trans ((if_pos c10).trans (rfl)))) dX1_write_30
    · refine lv_iconst (v := 1) hx hb dX1_write_15 (by decide) ?_
      refine lv_goto (tgt := 20) hx hb dX1_write_16 (by decide) ?_
      refine ztP_amiss C hP hS rfl rfl dX1_write_20 (fun u15 H locs hu15 hP hS => ?_)
      refine lv_iload_n hx hb dX1_write_23 rfl (lv_at hl 1 rfl) ?_
      refine ztK_isWord C hl.1 (by decide) (Nat.le_of_ble_eq_true rfl) dX1_write_24 ?_
      refine lv_if_ne (tgt := 31) hx hb dX1_write_27 (by decide) (fun c16 => ?_) (fun c16 => ?_)
      · refine lv_aload_n hx hb dX1_write_31 rfl (lv_at hl 0 rfl) ?_
        refine ztG_places C hP dX1_write_32 ?_
        refine lv_aload_n hx hb dX1_write_35 rfl (lv_at hl 0 rfl) ?_
        refine ztG_writes C hP dX1_write_36 ?_
        refine lv_iload_n hx hb dX1_write_39 rfl (lv_at hl 1 rfl) ?_
        refine ztS_places C hP hS (by subst hu15; exact zt_in8 hN) dX1_write_40 (fun u17 H locs hu17 hP hS => ?_)
        refine lv_aload_n hx hb dX1_write_41 rfl (lv_at hl 0 rfl) ?_
        refine ztG_before C hP dX1_write_42 ?_
        refine lv_aload_n hx hb dX1_write_45 rfl (lv_at hl 0 rfl) ?_
        refine ztG_writes C hP dX1_write_46 ?_
        refine lv_aload_n hx hb dX1_write_49 rfl (lv_at hl 0 rfl) ?_
        refine ztG_words C hP dX1_write_50 ?_
        refine lv_iload_n hx hb dX1_write_53 rfl (lv_at hl 1 rfl) ?_
        refine ztL_words C hP (by first | with_reducible assumption | with_reducible exact zt_in (by with_reducible assumption) | with_reducible exact zt_inb (by with_reducible assumption) (by with_reducible assumption)) dX1_write_54 ?_
        refine ztS_before C hP hS (by subst hu15 hu17; exact zt_in8 hN) dX1_write_55 (fun u18 H locs hu18 hP hS => ?_)
        refine lv_aload_n hx hb dX1_write_56 rfl (lv_at hl 0 rfl) ?_
        refine lv_dup hx hb dX1_write_57 rfl ?_
        refine ztG_writes C hP dX1_write_58 ?_
        refine lv_iconst (v := 1) hx hb dX1_write_61 (by decide) ?_
        refine lv_iadd hx hb dX1_write_62 ?_
        refine ztP_writes C hP hS dX1_write_63 (fun u19 H locs hu19 hP hS => ?_)
        refine lv_aload_n hx hb dX1_write_66 rfl (lv_at hl 0 rfl) ?_
        refine ztG_words C hP dX1_write_67 ?_
        refine lv_iload_n hx hb dX1_write_70 rfl (lv_at hl 1 rfl) ?_
        refine lv_iload_n hx hb dX1_write_71 rfl (lv_at hl 2 rfl) ?_
        refine ztS_words C hP hS (by first | with_reducible assumption | with_reducible exact zt_in (by with_reducible assumption) | with_reducible exact zt_inb (by with_reducible assumption) (by with_reducible assumption)) dX1_write_72 (fun u20 H locs hu20 hP hS => ?_)
        exact zt_vret C hr hlk hP hS (by subst hu15 hu17 hu18 hu19 hu20; exact (if_pos c1).trans ((if_pos c8).trans ((if_neg c16).trans (rfl)))) dX1_write_73
      · exact zt_vret C hr hlk hP hS (by subst hu15; exact (if_pos c1).trans ((if_pos c8).trans ((if_pos c16).trans (rfl)))) dX1_write_30
section
variable {p : Program} {l : Launch} {e : Env} {R : Room} {s : State} {m : MethodId} {args : Array Value} {below : List Frame} {meth : Method} {c : Code} {H : Heap} {locs : List Loc} {Q : State → Prop} {cc : ByteArray} {pc nL : Nat} {ls : Array Slot} {rest : List Value} {k : Ztk} {u : Zts} {H0 : Heap}
set_option maxHeartbeats 4000000 in
set_option maxRecDepth 100000 in
theorem ztK_write {a1 a2 : Int32} (C : ZtC p s m args c cc nL k) (hP : ZtP k u H) (hS : va_S (ZtA k) H0 H locs) (hsz : ls.size = nL) (hR : 1 + 1 ≤ R.frames ∧ 8 + (3 + 11) + 40 * 1 ≤ R.locals) (hw : (rest.map fun v => v.category).sum ≤ 8) {w0 : Nat → Int32} (hN : ZtG w0 7 u) (hdg : decode cc pc = .ok (.invokevirtual 68, 3)) (kk : ∀ (u1 : Zts) (H1 : Heap) (locs1 : List Loc), u1 = zt_write u a1 a2 → ZtP k u1 H1 → va_S (ZtA k) H0 H1 locs1 → W p l e R s m args below meth c H1 locs1 0 0 Q (F0 m (pc + 3) ls (rest))) : W p l e R s m args below meth c H locs 0 0 Q (F0 m pc ls (.int a2 :: .int a1 :: .ref (zta_this k) :: rest)) :=
  zt_callV (y := yX1_write) (n := 2) (As := [.int a1, .int a2]) C (ztM_write l k C.2.2 u a1 a2 hN) zwT_c_write zwT_l_write zwT_i_write zwT_v_write rfl (by decide +kernel) hP hS hsz hR hw rfl hdg (fun H1 locs1 hP1 hS1 => kk _ H1 locs1 rfl hP1 hS1)
end

theorem zupd_back (w : Nat → Int32) (a : Nat) (v : Int32) : upd (upd w a v) a (w a) = w := by
  funext j
  unfold upd
  by_cases h : j = a
  · rw [if_pos h, h]
  · rw [if_neg h, if_neg h]
theorem zt_G_write {w0 : Nat → Int32} {n : Nat} {u : Zts} (a1 a2 : Int32) (hn : n < 8) (h : ZtG w0 n u) : ZtG w0 (n + 1) (zt_write u a1 a2) := by
  have key : ∀ b : Int32, ¬ zt_isWord a1 = 0 → ZtG w0 (n + 1) (zts_words (zts_writes (zts_before (zts_places (zts_amiss u b) (upd (ztg_places u) (ztg_writes u).toNatClampNeg a1)) (upd (ztg_before u) (ztg_writes u).toNatClampNeg (ztg_words u a1.toNatClampNeg))) (ztg_writes u + 1)) (upd (ztg_words u) a1.toNatClampNeg a2)) := by
    intro b hw
    obtain ⟨j, h1, h2, h3, h4⟩ := h
    obtain ⟨q, hq, rfl⟩ := vp_in_of (zt_in hw) (by decide)
    have hc : (ztg_writes u).toNatClampNeg = j := by rw [h2]; exact nI_clamp (by omega)
    have hqc : (nI q).toNatClampNeg = q := nI_clamp (by omega)
    refine ⟨j + 1, by omega, ?_, ?_, ?_⟩
    · show ztg_writes u + 1 = nI (j + 1)
      rw [h2, nI_succ]
    · intro i hi
      show ∃ q : Nat, q < 256 ∧ upd (ztg_places u) (ztg_writes u).toNatClampNeg _ i = nI q
      rw [hc]
      by_cases e : i = j
      · exact ⟨q, hq, by rw [e]; exact pk_us⟩
      · obtain ⟨q2, g1, g2⟩ := h3 i (by omega)
        exact ⟨q2, g1, by rw [pk_un e]; exact g2⟩
    · show zundo (upd (ztg_places u) (ztg_writes u).toNatClampNeg _) (upd (ztg_before u) (ztg_writes u).toNatClampNeg _) (j + 1) (upd (ztg_words u) (nI q).toNatClampNeg a2) = w0
      rw [hc, hqc]
      unfold zundo
      rw [pk_us, pk_us, hqc, zupd_back]
      rw [← h4]
      exact zundo_congr j _ (fun i hi => ⟨pk_un (by omega), pk_un (by omega)⟩)
  have low : ∀ b : Int32, ZtG w0 (n + 1) (zts_amiss u b) := fun b => zt_Gle (Nat.le_succ n) h
  unfold zt_write
  dsimp only
  repeat' split
  all_goals first | exact low _ | exact key _ (by with_reducible assumption)
def zt_byteAt (u : Zts) (a1 : Int32) : Int32 × Zts :=
  if a1 < 0 then (
    if (ztg_amiss u) = 0 then (
      let u4 := zts_amiss u 1
      (0, u4))
    else (
      let u3 := zts_amiss u 1
      (0, u3)))
  else (
    if 512 ≤ a1 then (
      if (ztg_amiss u) = 0 then (
        let u8 := zts_amiss u 1
        (0, u8))
      else (
        let u7 := zts_amiss u 1
        (0, u7)))
    else (
      if (ztg_amiss u) = 0 then (
        let u11 := zts_amiss u 0
        (ztg_bytes u11 a1.toNatClampNeg, u11))
      else (
        let u10 := zts_amiss u 1
        (ztg_bytes u10 a1.toNatClampNeg, u10))))
set_option maxHeartbeats 4000000 in
set_option maxRecDepth 100000 in
theorem ztM_byteAt (l : Launch) (k : Ztk) (Dk : ZtD k) (u : Zts) (a1 : Int32) : Met l yX1_byteAt (.code yX1_byteAt cX1_byteAt 3 (some .int) :: zwT) (zrm 0) (ZtB k [.ref (zta_this k), .int a1] u) (ZtQ k (some (.int (zt_byteAt u a1).1)) (zt_byteAt u a1).2) 0 0 (ZtA k) := by
  refine ztE_in (by decide) rfl (Nat.le_of_ble_eq_true rfl) Dk ?_
  intro p e s m below meth c ls C hr hlk hP hl
  have hx := C.1.1
  have hb := C.1.2.1
  have hl : lv_has ls 3 [(0, .ref (zta_this k)), (1, .int a1)] := hl
  have hS : va_S (ZtA k) s.heap s.heap [] := va_S.rf
  refine lv_iload_n hx hb dX1_byteAt_0 rfl (lv_at hl 1 rfl) ?_
  refine lv_if_lt (tgt := 15) hx hb dX1_byteAt_1 (by decide) (fun c1 => ?_) (fun c1 => ?_)
  · refine lv_iconst (v := 0) hx hb dX1_byteAt_15 (by decide) ?_
    refine lv_istore_n (lv' := [(2, .int 0), (0, .ref (zta_this k)), (1, .int a1)]) hx hb dX1_byteAt_16 rfl hl (by decide) rfl (fun ls hl => ?_)
    refine lv_aload_n hx hb dX1_byteAt_17 rfl (lv_at hl 1 rfl) ?_
    refine lv_aload_n hx hb dX1_byteAt_18 rfl (lv_at hl 1 rfl) ?_
    refine ztG_amiss C hP dX1_byteAt_19 ?_
    refine lv_if_ne (tgt := 29) hx hb dX1_byteAt_22 (by decide) (fun c2 => ?_) (fun c2 => ?_)
    · refine lv_iconst (v := 1) hx hb dX1_byteAt_29 (by decide) ?_
      refine lv_goto (tgt := 34) hx hb dX1_byteAt_30 (by decide) ?_
      refine ztP_amiss C hP hS rfl rfl dX1_byteAt_34 (fun u3 H locs hu3 hP hS => ?_)
      refine lv_iload_n hx hb dX1_byteAt_37 rfl (lv_at hl 0 rfl) ?_
      refine lv_if_eq (tgt := 50) hx hb dX1_byteAt_38 (by decide) (fun _ => ?_) (fun q => absurd q (by decide))
      refine lv_iconst (v := 0) hx hb dX1_byteAt_50 (by decide) ?_
      exact zt_iret C hr hlk hP hS (by subst hu3; exact (if_pos c1).trans ((if_neg c2).trans (rfl))) dX1_byteAt_51
    · refine lv_iload_n hx hb dX1_byteAt_25 rfl (lv_at hl 0 rfl) ?_
      refine lv_if_ne (tgt := 33) hx hb dX1_byteAt_26 (by decide) (fun q => absurd q (by decide)) (fun _ => ?_)
      refine lv_iconst (v := 1) hx hb dX1_byteAt_29 (by decide) ?_
      refine lv_goto (tgt := 34) hx hb dX1_byteAt_30 (by decide) ?_
      refine ztP_amiss C hP hS rfl rfl dX1_byteAt_34 (fun u4 H locs hu4 hP hS => ?_)
      refine lv_iload_n hx hb dX1_byteAt_37 rfl (lv_at hl 0 rfl) ?_
      refine lv_if_eq (tgt := 50) hx hb dX1_byteAt_38 (by decide) (fun _ => ?_) (fun q => absurd q (by decide))
      refine lv_iconst (v := 0) hx hb dX1_byteAt_50 (by decide) ?_
      exact zt_iret C hr hlk hP hS (by subst hu4; exact (if_pos c1).trans ((if_pos c2).trans (rfl))) dX1_byteAt_51
  · refine lv_iload_n hx hb dX1_byteAt_4 rfl (lv_at hl 1 rfl) ?_
    refine lv_sipush (v := 512) hx hb dX1_byteAt_5 (by decide) ?_
    refine lv_icmp_ge (tgt := 15) hx hb dX1_byteAt_8 (by decide) (fun c5 => ?_) (fun c5 => ?_)
    · refine lv_iconst (v := 0) hx hb dX1_byteAt_15 (by decide) ?_
      refine lv_istore_n (lv' := [(2, .int 0), (0, .ref (zta_this k)), (1, .int a1)]) hx hb dX1_byteAt_16 rfl hl (by decide) rfl (fun ls hl => ?_)
      refine lv_aload_n hx hb dX1_byteAt_17 rfl (lv_at hl 1 rfl) ?_
      refine lv_aload_n hx hb dX1_byteAt_18 rfl (lv_at hl 1 rfl) ?_
      refine ztG_amiss C hP dX1_byteAt_19 ?_
      refine lv_if_ne (tgt := 29) hx hb dX1_byteAt_22 (by decide) (fun c6 => ?_) (fun c6 => ?_)
      · refine lv_iconst (v := 1) hx hb dX1_byteAt_29 (by decide) ?_
        refine lv_goto (tgt := 34) hx hb dX1_byteAt_30 (by decide) ?_
        refine ztP_amiss C hP hS rfl rfl dX1_byteAt_34 (fun u7 H locs hu7 hP hS => ?_)
        refine lv_iload_n hx hb dX1_byteAt_37 rfl (lv_at hl 0 rfl) ?_
        refine lv_if_eq (tgt := 50) hx hb dX1_byteAt_38 (by decide) (fun _ => ?_) (fun q => absurd q (by decide))
        refine lv_iconst (v := 0) hx hb dX1_byteAt_50 (by decide) ?_
        exact zt_iret C hr hlk hP hS (by subst hu7; exact (if_neg c1).trans ((if_pos c5).trans ((if_neg c6).trans (rfl)))) dX1_byteAt_51
      · refine lv_iload_n hx hb dX1_byteAt_25 rfl (lv_at hl 0 rfl) ?_
        refine lv_if_ne (tgt := 33) hx hb dX1_byteAt_26 (by decide) (fun q => absurd q (by decide)) (fun _ => ?_)
        refine lv_iconst (v := 1) hx hb dX1_byteAt_29 (by decide) ?_
        refine lv_goto (tgt := 34) hx hb dX1_byteAt_30 (by decide) ?_
        refine ztP_amiss C hP hS rfl rfl dX1_byteAt_34 (fun u8 H locs hu8 hP hS => ?_)
        refine lv_iload_n hx hb dX1_byteAt_37 rfl (lv_at hl 0 rfl) ?_
        refine lv_if_eq (tgt := 50) hx hb dX1_byteAt_38 (by decide) (fun _ => ?_) (fun q => absurd q (by decide))
        refine lv_iconst (v := 0) hx hb dX1_byteAt_50 (by decide) ?_
        exact zt_iret C hr hlk hP hS (by subst hu8; exact (if_neg c1).trans ((if_pos c5).trans ((if_pos c6).trans (rfl)))) dX1_byteAt_51
    · refine lv_iconst (v := 1) hx hb dX1_byteAt_11 (by decide) ?_
      refine lv_goto (tgt := 16) hx hb dX1_byteAt_12 (by decide) ?_
      refine lv_istore_n (lv' := [(2, .int 1), (0, .ref (zta_this k)), (1, .int a1)]) hx hb dX1_byteAt_16 rfl hl (by decide) rfl (fun ls hl => ?_)
      refine lv_aload_n hx hb dX1_byteAt_17 rfl (lv_at hl 1 rfl) ?_
      refine lv_aload_n hx hb dX1_byteAt_18 rfl (lv_at hl 1 rfl) ?_
      refine ztG_amiss C hP dX1_byteAt_19 ?_
      refine lv_if_ne (tgt := 29) hx hb dX1_byteAt_22 (by decide) (fun c9 => ?_) (fun c9 => ?_)
      · refine lv_iconst (v := 1) hx hb dX1_byteAt_29 (by decide) ?_
        refine lv_goto (tgt := 34) hx hb dX1_byteAt_30 (by decide) ?_
        refine ztP_amiss C hP hS rfl rfl dX1_byteAt_34 (fun u10 H locs hu10 hP hS => ?_)
        refine lv_iload_n hx hb dX1_byteAt_37 rfl (lv_at hl 0 rfl) ?_
        refine lv_if_eq (tgt := 50) hx hb dX1_byteAt_38 (by decide) (fun q => absurd q (by decide)) (fun _ => ?_)
        refine lv_aload_n hx hb dX1_byteAt_41 rfl (lv_at hl 1 rfl) ?_
        refine ztG_bytes C hP dX1_byteAt_42 ?_
        refine lv_iload_n hx hb dX1_byteAt_45 rfl (lv_at hl 2 rfl) ?_
        refine ztL_bytes C hP (by first | with_reducible assumption | with_reducible exact zt_in (by with_reducible assumption) | with_reducible exact zt_inb (by with_reducible assumption) (by with_reducible assumption)) dX1_byteAt_46 ?_
        refine lv_goto (tgt := 51) hx hb dX1_byteAt_47 (by decide) ?_
        exact zt_iret C hr hlk hP hS (by subst hu10; exact (if_neg c1).trans ((if_neg c5).trans ((if_neg c9).trans (rfl)))) dX1_byteAt_51
      · refine lv_iload_n hx hb dX1_byteAt_25 rfl (lv_at hl 0 rfl) ?_
        refine lv_if_ne (tgt := 33) hx hb dX1_byteAt_26 (by decide) (fun _ => ?_) (fun q => absurd q (by decide))
        refine lv_iconst (v := 0) hx hb dX1_byteAt_33 (by decide) ?_
        refine ztP_amiss C hP hS rfl rfl dX1_byteAt_34 (fun u11 H locs hu11 hP hS => ?_)
        refine lv_iload_n hx hb dX1_byteAt_37 rfl (lv_at hl 0 rfl) ?_
        refine lv_if_eq (tgt := 50) hx hb dX1_byteAt_38 (by decide) (fun q => absurd q (by decide)) (fun _ => ?_)
        refine lv_aload_n hx hb dX1_byteAt_41 rfl (lv_at hl 1 rfl) ?_
        refine ztG_bytes C hP dX1_byteAt_42 ?_
        refine lv_iload_n hx hb dX1_byteAt_45 rfl (lv_at hl 2 rfl) ?_
        refine ztL_bytes C hP (by first | with_reducible assumption | with_reducible exact zt_in (by with_reducible assumption) | with_reducible exact zt_inb (by with_reducible assumption) (by with_reducible assumption)) dX1_byteAt_46 ?_
        refine lv_goto (tgt := 51) hx hb dX1_byteAt_47 (by decide) ?_
        exact zt_iret C hr hlk hP hS (by subst hu11; exact (if_neg c1).trans ((if_neg c5).trans ((if_pos c9).trans (rfl)))) dX1_byteAt_51
section
variable {p : Program} {l : Launch} {e : Env} {R : Room} {s : State} {m : MethodId} {args : Array Value} {below : List Frame} {meth : Method} {c : Code} {H : Heap} {locs : List Loc} {Q : State → Prop} {cc : ByteArray} {pc nL : Nat} {ls : Array Slot} {rest : List Value} {k : Ztk} {u : Zts} {H0 : Heap}
set_option maxHeartbeats 4000000 in
set_option maxRecDepth 100000 in
theorem ztK_byteAt {a1 : Int32} (C : ZtC p s m args c cc nL k) (hP : ZtP k u H) (hS : va_S (ZtA k) H0 H locs) (hsz : ls.size = nL) (hR : 0 + 1 ≤ R.frames ∧ 8 + (3 + 11) + 40 * 0 ≤ R.locals) (hw : (rest.map fun v => v.category).sum ≤ 8) (hdg : decode cc pc = .ok (.invokevirtual 61, 3)) (kk : ∀ (r1 : Int32) (u1 : Zts) (H1 : Heap) (locs1 : List Loc), r1 = (zt_byteAt u a1).1 → u1 = (zt_byteAt u a1).2 → ZtP k u1 H1 → va_S (ZtA k) H0 H1 locs1 → W p l e R s m args below meth c H1 locs1 0 0 Q (F0 m (pc + 3) ls (.int r1 :: rest))) : W p l e R s m args below meth c H locs 0 0 Q (F0 m pc ls (.int a1 :: .ref (zta_this k) :: rest)) :=
  zt_callV (y := yX1_byteAt) (n := 1) (As := [.int a1]) C (ztM_byteAt l k C.2.2 u a1 ) zwT_c_byteAt zwT_l_byteAt zwT_i_byteAt zwT_v_byteAt rfl (by decide +kernel) hP hS hsz hR hw rfl hdg (fun H1 locs1 hP1 hS1 => kk _ _ H1 locs1 rfl rfl hP1 hS1)
end
theorem zt_G_byteAt {w0 : Nat → Int32} {n : Nat} {u : Zts} (a1 : Int32) (h : ZtG w0 n u) : ZtG w0 (n + 0) (zt_byteAt u a1).2 := by
  unfold zt_byteAt
  dsimp only
  repeat' split
  all_goals first | exact zt_Gle (by omega) (zt_Gs_amiss _ (h))
def zt_pair (u : Zts) (a1 : Int32) : Int32 × Zts :=
  let r2 := (zt_byteAt u a1).1
  let u1 := (zt_byteAt u a1).2
  let r4 := (zt_byteAt u1 (a1 + 1)).1
  let u3 := (zt_byteAt u1 (a1 + 1)).2
  ((r2 * 256) + r4, u3)
set_option maxHeartbeats 4000000 in
set_option maxRecDepth 100000 in
theorem ztM_pair (l : Launch) (k : Ztk) (Dk : ZtD k) (u : Zts) (a1 : Int32) : Met l yX1_pair (.code yX1_pair cX1_pair 3 (some .int) :: zwT) (zrm 1) (ZtB k [.ref (zta_this k), .int a1] u) (ZtQ k (some (.int (zt_pair u a1).1)) (zt_pair u a1).2) 0 0 (ZtA k) := by
  refine ztE_in (by decide) rfl (Nat.le_of_ble_eq_true rfl) Dk ?_
  intro p e s m below meth c ls C hr hlk hP hl
  have hx := C.1.1
  have hb := C.1.2.1
  have hl : lv_has ls 3 [(0, .ref (zta_this k)), (1, .int a1)] := hl
  have hS : va_S (ZtA k) s.heap s.heap [] := va_S.rf
  refine lv_aload_n hx hb dX1_pair_0 rfl (lv_at hl 0 rfl) ?_
  refine lv_iload_n hx hb dX1_pair_1 rfl (lv_at hl 1 rfl) ?_
  refine ztK_byteAt C hP hS hl.1 (by decide) (Nat.le_of_ble_eq_true rfl) dX1_pair_2 (fun r2 u1 H locs hr2 hu1 hP hS => ?_)
  refine lv_istore_n (lv' := [(2, .int r2), (0, .ref (zta_this k)), (1, .int a1)]) hx hb dX1_pair_5 rfl hl (by decide) rfl (fun ls hl => ?_)
  refine lv_iload_n hx hb dX1_pair_6 rfl (lv_at hl 0 rfl) ?_
  refine lv_sipush (v := 256) hx hb dX1_pair_7 (by decide) ?_
  refine lv_imul hx hb dX1_pair_10 ?_
  refine lv_aload_n hx hb dX1_pair_11 rfl (lv_at hl 1 rfl) ?_
  refine lv_iload_n hx hb dX1_pair_12 rfl (lv_at hl 2 rfl) ?_
  refine lv_iconst (v := 1) hx hb dX1_pair_13 (by decide) ?_
  refine lv_iadd hx hb dX1_pair_14 ?_
  refine ztK_byteAt C hP hS hl.1 (by decide) (Nat.le_of_ble_eq_true rfl) dX1_pair_15 (fun r4 u3 H locs hr4 hu3 hP hS => ?_)
  refine lv_iadd hx hb dX1_pair_18 ?_
  exact zt_iret C hr hlk hP hS (by subst hr2 hu1 hr4 hu3; exact rfl) dX1_pair_19
section
variable {p : Program} {l : Launch} {e : Env} {R : Room} {s : State} {m : MethodId} {args : Array Value} {below : List Frame} {meth : Method} {c : Code} {H : Heap} {locs : List Loc} {Q : State → Prop} {cc : ByteArray} {pc nL : Nat} {ls : Array Slot} {rest : List Value} {k : Ztk} {u : Zts} {H0 : Heap}
set_option maxHeartbeats 4000000 in
set_option maxRecDepth 100000 in
theorem ztK_pair {a1 : Int32} (C : ZtC p s m args c cc nL k) (hP : ZtP k u H) (hS : va_S (ZtA k) H0 H locs) (hsz : ls.size = nL) (hR : 1 + 1 ≤ R.frames ∧ 8 + (3 + 11) + 40 * 1 ≤ R.locals) (hw : (rest.map fun v => v.category).sum ≤ 8) (hdg : decode cc pc = .ok (.invokevirtual 78, 3)) (kk : ∀ (r1 : Int32) (u1 : Zts) (H1 : Heap) (locs1 : List Loc), r1 = (zt_pair u a1).1 → u1 = (zt_pair u a1).2 → ZtP k u1 H1 → va_S (ZtA k) H0 H1 locs1 → W p l e R s m args below meth c H1 locs1 0 0 Q (F0 m (pc + 3) ls (.int r1 :: rest))) : W p l e R s m args below meth c H locs 0 0 Q (F0 m pc ls (.int a1 :: .ref (zta_this k) :: rest)) :=
  zt_callV (y := yX1_pair) (n := 1) (As := [.int a1]) C (ztM_pair l k C.2.2 u a1 ) zwT_c_pair zwT_l_pair zwT_i_pair zwT_v_pair rfl (by decide +kernel) hP hS hsz hR hw rfl hdg (fun H1 locs1 hP1 hS1 => kk _ _ H1 locs1 rfl rfl hP1 hS1)
end
theorem zt_G_pair {w0 : Nat → Int32} {n : Nat} {u : Zts} (a1 : Int32) (h : ZtG w0 n u) : ZtG w0 (n + 0) (zt_pair u a1).2 := by
  unfold zt_pair
  dsimp only
  repeat' split
  all_goals first | exact zt_Gle (by omega) (zt_G_byteAt _ (zt_G_byteAt _ (h)))
def zt_reckon (u : Zts) (a1 : Int32) : Int32 × Zts :=
  let u1 := zts_sp u ((ztg_sp u) - 1)
  let r3 := (zt_read u1 (ztg_sp u1)).1
  let u2 := (zt_read u1 (ztg_sp u1)).2
  if a1 = 96 then (
    let u13 := zts_top u2 (r3 + (ztg_top u2))
    let u14 := zt_write u13 (ztg_sp u13) (ztg_top u13)
    (4, u14))
  else (
    if a1 = 100 then (
      let u11 := zts_top u2 (r3 - (ztg_top u2))
      let u12 := zt_write u11 (ztg_sp u11) (ztg_top u11)
      (4, u12))
    else (
      if a1 = 126 then (
        let u9 := zts_top u2 (r3 &&& (ztg_top u2))
        let u10 := zt_write u9 (ztg_sp u9) (ztg_top u9)
        (4, u10))
      else (
        let u7 := zts_top u2 (r3 ||| (ztg_top u2))
        let u8 := zt_write u7 (ztg_sp u7) (ztg_top u7)
        (4, u8))))
set_option maxHeartbeats 4000000 in
set_option maxRecDepth 100000 in
theorem ztM_reckon (l : Launch) (k : Ztk) (Dk : ZtD k) (u : Zts) (a1 : Int32) {w0 : Nat → Int32} (hN : ZtG w0 4 u) : Met l yX1_reckon (.code yX1_reckon cX1_reckon 3 (some .int) :: zwT) (zrm 2) (ZtB k [.ref (zta_this k), .int a1] u) (ZtQ k (some (.int (zt_reckon u a1).1)) (zt_reckon u a1).2) 0 0 (ZtA k) := by
  refine ztE_in (by decide) rfl (Nat.le_of_ble_eq_true rfl) Dk ?_
  intro p e s m below meth c ls C hr hlk hP hl
  have hx := C.1.1
  have hb := C.1.2.1
  have hl : lv_has ls 3 [(0, .ref (zta_this k)), (1, .int a1)] := hl
  have hS : va_S (ZtA k) s.heap s.heap [] := va_S.rf
  refine lv_aload_n hx hb dX1_reckon_0 rfl (lv_at hl 0 rfl) ?_
  refine lv_dup hx hb dX1_reckon_1 rfl ?_
  refine ztG_sp C hP dX1_reckon_2 ?_
  refine lv_iconst (v := 1) hx hb dX1_reckon_5 (by decide) ?_
  refine lv_isub hx hb dX1_reckon_6 ?_
  refine ztP_sp C hP hS dX1_reckon_7 (fun u1 H locs hu1 hP hS => ?_)
  refine lv_aload_n hx hb dX1_reckon_10 rfl (lv_at hl 0 rfl) ?_
  refine lv_aload_n hx hb dX1_reckon_11 rfl (lv_at hl 0 rfl) ?_
  refine ztG_sp C hP dX1_reckon_12 ?_
  refine ztK_read C hP hS hl.1 (by decide) (Nat.le_of_ble_eq_true rfl) dX1_reckon_15 (fun r3 u2 H locs hr3 hu2 hP hS => ?_)
  refine lv_istore_n (lv' := [(2, .int r3), (0, .ref (zta_this k)), (1, .int a1)]) hx hb dX1_reckon_18 rfl hl (by decide) rfl (fun ls hl => ?_)
  refine lv_aload_n hx hb dX1_reckon_19 rfl (lv_at hl 1 rfl) ?_
  refine lv_iload_n hx hb dX1_reckon_20 rfl (lv_at hl 2 rfl) ?_
  refine lv_bipush (v := 96) hx hb dX1_reckon_21 (by decide) ?_
  refine lv_icmp_ne (tgt := 35) hx hb dX1_reckon_23 (by decide) (fun c4 => ?_) (fun c4 => ?_)
  · refine lv_iload_n hx hb dX1_reckon_35 rfl (lv_at hl 2 rfl) ?_
    refine lv_bipush (v := 100) hx hb dX1_reckon_36 (by decide) ?_
    refine lv_icmp_ne (tgt := 50) hx hb dX1_reckon_38 (by decide) (fun c5 => ?_) (fun c5 => ?_)
    · refine lv_iload_n hx hb dX1_reckon_50 rfl (lv_at hl 2 rfl) ?_
      refine lv_bipush (v := 126) hx hb dX1_reckon_51 (by decide) ?_
      refine lv_icmp_ne (tgt := 65) hx hb dX1_reckon_53 (by decide) (fun c6 => ?_) (fun c6 => ?_)
      · refine lv_iload_n hx hb dX1_reckon_65 rfl (lv_at hl 0 rfl) ?_
        refine lv_aload_n hx hb dX1_reckon_66 rfl (lv_at hl 1 rfl) ?_
        refine ztG_top C hP dX1_reckon_67 ?_
        refine lv_ior hx hb dX1_reckon_70 ?_
        refine ztP_top C hP hS dX1_reckon_71 (fun u7 H locs hu7 hP hS => ?_)
        refine lv_aload_n hx hb dX1_reckon_74 rfl (lv_at hl 1 rfl) ?_
        refine lv_aload_n hx hb dX1_reckon_75 rfl (lv_at hl 1 rfl) ?_
        refine ztG_sp C hP dX1_reckon_76 ?_
        refine lv_aload_n hx hb dX1_reckon_79 rfl (lv_at hl 1 rfl) ?_
        refine ztG_top C hP dX1_reckon_80 ?_
        refine ztK_write C hP hS hl.1 (by decide) (Nat.le_of_ble_eq_true rfl) (by subst hu1 hr3 hu2 hu7; exact zt_Gle (by decide) (zt_Gs_top _ (zt_G_read _ (zt_Gs_sp _ (hN))))) dX1_reckon_83 (fun u8 H locs hu8 hP hS => ?_)
        refine lv_iconst (v := 4) hx hb dX1_reckon_86 (by decide) ?_
        exact zt_iret C hr hlk hP hS (by subst hu1 hr3 hu2 hu7 hu8; exact (if_neg c4).trans ((if_neg c5).trans ((if_neg c6).trans (rfl)))) dX1_reckon_87
      · refine lv_iload_n hx hb dX1_reckon_56 rfl (lv_at hl 0 rfl) ?_
        refine lv_aload_n hx hb dX1_reckon_57 rfl (lv_at hl 1 rfl) ?_
        refine ztG_top C hP dX1_reckon_58 ?_
        refine lv_iand hx hb dX1_reckon_61 ?_
        refine lv_goto (tgt := 71) hx hb dX1_reckon_62 (by decide) ?_
        refine ztP_top C hP hS dX1_reckon_71 (fun u9 H locs hu9 hP hS => ?_)
        refine lv_aload_n hx hb dX1_reckon_74 rfl (lv_at hl 1 rfl) ?_
        refine lv_aload_n hx hb dX1_reckon_75 rfl (lv_at hl 1 rfl) ?_
        refine ztG_sp C hP dX1_reckon_76 ?_
        refine lv_aload_n hx hb dX1_reckon_79 rfl (lv_at hl 1 rfl) ?_
        refine ztG_top C hP dX1_reckon_80 ?_
        refine ztK_write C hP hS hl.1 (by decide) (Nat.le_of_ble_eq_true rfl) (by subst hu1 hr3 hu2 hu9; exact zt_Gle (by decide) (zt_Gs_top _ (zt_G_read _ (zt_Gs_sp _ (hN))))) dX1_reckon_83 (fun u10 H locs hu10 hP hS => ?_)
        refine lv_iconst (v := 4) hx hb dX1_reckon_86 (by decide) ?_
        exact zt_iret C hr hlk hP hS (by subst hu1 hr3 hu2 hu9 hu10; exact (if_neg c4).trans ((if_neg c5).trans ((if_pos c6).trans (rfl)))) dX1_reckon_87
    · refine lv_iload_n hx hb dX1_reckon_41 rfl (lv_at hl 0 rfl) ?_
      refine lv_aload_n hx hb dX1_reckon_42 rfl (lv_at hl 1 rfl) ?_
      refine ztG_top C hP dX1_reckon_43 ?_
      refine lv_isub hx hb dX1_reckon_46 ?_
      refine lv_goto (tgt := 71) hx hb dX1_reckon_47 (by decide) ?_
      refine ztP_top C hP hS dX1_reckon_71 (fun u11 H locs hu11 hP hS => ?_)
      refine lv_aload_n hx hb dX1_reckon_74 rfl (lv_at hl 1 rfl) ?_
      refine lv_aload_n hx hb dX1_reckon_75 rfl (lv_at hl 1 rfl) ?_
      refine ztG_sp C hP dX1_reckon_76 ?_
      refine lv_aload_n hx hb dX1_reckon_79 rfl (lv_at hl 1 rfl) ?_
      refine ztG_top C hP dX1_reckon_80 ?_
      refine ztK_write C hP hS hl.1 (by decide) (Nat.le_of_ble_eq_true rfl) (by subst hu1 hr3 hu2 hu11; exact zt_Gle (by decide) (zt_Gs_top _ (zt_G_read _ (zt_Gs_sp _ (hN))))) dX1_reckon_83 (fun u12 H locs hu12 hP hS => ?_)
      refine lv_iconst (v := 4) hx hb dX1_reckon_86 (by decide) ?_
      exact zt_iret C hr hlk hP hS (by subst hu1 hr3 hu2 hu11 hu12; exact (if_neg c4).trans ((if_pos c5).trans (rfl))) dX1_reckon_87
  · refine lv_iload_n hx hb dX1_reckon_26 rfl (lv_at hl 0 rfl) ?_
    refine lv_aload_n hx hb dX1_reckon_27 rfl (lv_at hl 1 rfl) ?_
    refine ztG_top C hP dX1_reckon_28 ?_
    refine lv_iadd hx hb dX1_reckon_31 ?_
    refine lv_goto (tgt := 71) hx hb dX1_reckon_32 (by decide) ?_
    refine ztP_top C hP hS dX1_reckon_71 (fun u13 H locs hu13 hP hS => ?_)
    refine lv_aload_n hx hb dX1_reckon_74 rfl (lv_at hl 1 rfl) ?_
    refine lv_aload_n hx hb dX1_reckon_75 rfl (lv_at hl 1 rfl) ?_
    refine ztG_sp C hP dX1_reckon_76 ?_
    refine lv_aload_n hx hb dX1_reckon_79 rfl (lv_at hl 1 rfl) ?_
    refine ztG_top C hP dX1_reckon_80 ?_
    refine ztK_write C hP hS hl.1 (by decide) (Nat.le_of_ble_eq_true rfl) (by subst hu1 hr3 hu2 hu13; exact zt_Gle (by decide) (zt_Gs_top _ (zt_G_read _ (zt_Gs_sp _ (hN))))) dX1_reckon_83 (fun u14 H locs hu14 hP hS => ?_)
    refine lv_iconst (v := 4) hx hb dX1_reckon_86 (by decide) ?_
    exact zt_iret C hr hlk hP hS (by subst hu1 hr3 hu2 hu13 hu14; exact (if_pos c4).trans (rfl)) dX1_reckon_87
section
variable {p : Program} {l : Launch} {e : Env} {R : Room} {s : State} {m : MethodId} {args : Array Value} {below : List Frame} {meth : Method} {c : Code} {H : Heap} {locs : List Loc} {Q : State → Prop} {cc : ByteArray} {pc nL : Nat} {ls : Array Slot} {rest : List Value} {k : Ztk} {u : Zts} {H0 : Heap}
set_option maxHeartbeats 4000000 in
set_option maxRecDepth 100000 in
theorem ztK_reckon {a1 : Int32} (C : ZtC p s m args c cc nL k) (hP : ZtP k u H) (hS : va_S (ZtA k) H0 H locs) (hsz : ls.size = nL) (hR : 2 + 1 ≤ R.frames ∧ 8 + (3 + 11) + 40 * 2 ≤ R.locals) (hw : (rest.map fun v => v.category).sum ≤ 8) {w0 : Nat → Int32} (hN : ZtG w0 4 u) (hdg : decode cc pc = .ok (.invokevirtual 96, 3)) (kk : ∀ (r1 : Int32) (u1 : Zts) (H1 : Heap) (locs1 : List Loc), r1 = (zt_reckon u a1).1 → u1 = (zt_reckon u a1).2 → ZtP k u1 H1 → va_S (ZtA k) H0 H1 locs1 → W p l e R s m args below meth c H1 locs1 0 0 Q (F0 m (pc + 3) ls (.int r1 :: rest))) : W p l e R s m args below meth c H locs 0 0 Q (F0 m pc ls (.int a1 :: .ref (zta_this k) :: rest)) :=
  zt_callV (y := yX1_reckon) (n := 1) (As := [.int a1]) C (ztM_reckon l k C.2.2 u a1 hN) zwT_c_reckon zwT_l_reckon zwT_i_reckon zwT_v_reckon rfl (by decide +kernel) hP hS hsz hR hw rfl hdg (fun H1 locs1 hP1 hS1 => kk _ _ H1 locs1 rfl rfl hP1 hS1)
end
theorem zt_G_reckon {w0 : Nat → Int32} {n : Nat} {u : Zts} (a1 : Int32) (hn : n ≤ 4) (h : ZtG w0 n u) : ZtG w0 (n + 1) (zt_reckon u a1).2 := by
  unfold zt_reckon
  dsimp only
  repeat' split
  all_goals first | exact zt_Gle (by omega) (zt_G_write _ _ (by omega) (zt_Gs_top _ (zt_G_read _ (zt_Gs_sp _ (h)))))
def zt_push (u : Zts) (a1 a2 a3 : Int32) : Int32 × Zts :=
  let u1 := zts_sp u ((ztg_sp u) + 1)
  let u2 := zts_top u1 a1
  let u3 := zt_write u2 (ztg_sp u2) (ztg_top u2)
  let u4 := zts_next u3 ((ztg_pc u3) + a2)
  (a3, u4)
set_option maxHeartbeats 4000000 in
set_option maxRecDepth 100000 in
theorem ztM_push (l : Launch) (k : Ztk) (Dk : ZtD k) (u : Zts) (a1 a2 a3 : Int32) {w0 : Nat → Int32} (hN : ZtG w0 4 u) : Met l yX1_push (.code yX1_push cX1_push 4 (some .int) :: zwT) (zrm 2) (ZtB k [.ref (zta_this k), .int a1, .int a2, .int a3] u) (ZtQ k (some (.int (zt_push u a1 a2 a3).1)) (zt_push u a1 a2 a3).2) 0 0 (ZtA k) := by
  refine ztE_in (by decide) rfl (Nat.le_of_ble_eq_true rfl) Dk ?_
  intro p e s m below meth c ls C hr hlk hP hl
  have hx := C.1.1
  have hb := C.1.2.1
  have hl : lv_has ls 4 [(0, .ref (zta_this k)), (1, .int a1), (2, .int a2), (3, .int a3)] := hl
  have hS : va_S (ZtA k) s.heap s.heap [] := va_S.rf
  refine lv_aload_n hx hb dX1_push_0 rfl (lv_at hl 0 rfl) ?_
  refine lv_dup hx hb dX1_push_1 rfl ?_
  refine ztG_sp C hP dX1_push_2 ?_
  refine lv_iconst (v := 1) hx hb dX1_push_5 (by decide) ?_
  refine lv_iadd hx hb dX1_push_6 ?_
  refine ztP_sp C hP hS dX1_push_7 (fun u1 H locs hu1 hP hS => ?_)
  refine lv_aload_n hx hb dX1_push_10 rfl (lv_at hl 0 rfl) ?_
  refine lv_iload_n hx hb dX1_push_11 rfl (lv_at hl 1 rfl) ?_
  refine ztP_top C hP hS dX1_push_12 (fun u2 H locs hu2 hP hS => ?_)
  refine lv_aload_n hx hb dX1_push_15 rfl (lv_at hl 0 rfl) ?_
  refine lv_aload_n hx hb dX1_push_16 rfl (lv_at hl 0 rfl) ?_
  refine ztG_sp C hP dX1_push_17 ?_
  refine lv_aload_n hx hb dX1_push_20 rfl (lv_at hl 0 rfl) ?_
  refine ztG_top C hP dX1_push_21 ?_
  refine ztK_write C hP hS hl.1 (by decide) (Nat.le_of_ble_eq_true rfl) (by subst hu1 hu2; exact zt_Gle (by decide) (zt_Gs_top _ (zt_Gs_sp _ (hN)))) dX1_push_24 (fun u3 H locs hu3 hP hS => ?_)
  refine lv_aload_n hx hb dX1_push_27 rfl (lv_at hl 0 rfl) ?_
  refine lv_aload_n hx hb dX1_push_28 rfl (lv_at hl 0 rfl) ?_
  refine ztG_pc C hP dX1_push_29 ?_
  refine lv_iload_n hx hb dX1_push_32 rfl (lv_at hl 2 rfl) ?_
  refine lv_iadd hx hb dX1_push_33 ?_
  refine ztP_next C hP hS dX1_push_34 (fun u4 H locs hu4 hP hS => ?_)
  refine lv_iload_n hx hb dX1_push_37 rfl (lv_at hl 3 rfl) ?_
  exact zt_iret C hr hlk hP hS (by subst hu1 hu2 hu3 hu4; exact rfl) dX1_push_38
section
variable {p : Program} {l : Launch} {e : Env} {R : Room} {s : State} {m : MethodId} {args : Array Value} {below : List Frame} {meth : Method} {c : Code} {H : Heap} {locs : List Loc} {Q : State → Prop} {cc : ByteArray} {pc nL : Nat} {ls : Array Slot} {rest : List Value} {k : Ztk} {u : Zts} {H0 : Heap}
set_option maxHeartbeats 4000000 in
set_option maxRecDepth 100000 in
theorem ztK_push {a1 a2 a3 : Int32} (C : ZtC p s m args c cc nL k) (hP : ZtP k u H) (hS : va_S (ZtA k) H0 H locs) (hsz : ls.size = nL) (hR : 2 + 1 ≤ R.frames ∧ 8 + (4 + 11) + 40 * 2 ≤ R.locals) (hw : (rest.map fun v => v.category).sum ≤ 8) {w0 : Nat → Int32} (hN : ZtG w0 4 u) (hdg : decode cc pc = .ok (.invokevirtual 81, 3)) (kk : ∀ (r1 : Int32) (u1 : Zts) (H1 : Heap) (locs1 : List Loc), r1 = (zt_push u a1 a2 a3).1 → u1 = (zt_push u a1 a2 a3).2 → ZtP k u1 H1 → va_S (ZtA k) H0 H1 locs1 → W p l e R s m args below meth c H1 locs1 0 0 Q (F0 m (pc + 3) ls (.int r1 :: rest))) : W p l e R s m args below meth c H locs 0 0 Q (F0 m pc ls (.int a3 :: .int a2 :: .int a1 :: .ref (zta_this k) :: rest)) :=
  zt_callV (y := yX1_push) (n := 3) (As := [.int a1, .int a2, .int a3]) C (ztM_push l k C.2.2 u a1 a2 a3 hN) zwT_c_push zwT_l_push zwT_i_push zwT_v_push rfl (by decide +kernel) hP hS hsz hR hw rfl hdg (fun H1 locs1 hP1 hS1 => kk _ _ H1 locs1 rfl rfl hP1 hS1)
end
theorem zt_G_push {w0 : Nat → Int32} {n : Nat} {u : Zts} (a1 a2 a3 : Int32) (hn : n ≤ 4) (h : ZtG w0 n u) : ZtG w0 (n + 1) (zt_push u a1 a2 a3).2 := by
  unfold zt_push
  dsimp only
  repeat' split
  all_goals first | exact zt_Gle (by omega) (zt_Gs_next _ (zt_G_write _ _ (by omega) (zt_Gs_top _ (zt_Gs_sp _ (h)))))
def zt_store (u : Zts) (a1 a2 a3 : Int32) : Int32 × Zts :=
  let u1 := zt_write u a1 (ztg_top u)
  let u2 := zts_sp u1 ((ztg_sp u1) - 1)
  let r4 := (zt_read u2 (ztg_sp u2)).1
  let u3 := (zt_read u2 (ztg_sp u2)).2
  let u5 := zts_top u3 r4
  let u6 := zts_next u5 ((ztg_pc u5) + a2)
  (a3, u6)
set_option maxHeartbeats 4000000 in
set_option maxRecDepth 100000 in
theorem ztM_store (l : Launch) (k : Ztk) (Dk : ZtD k) (u : Zts) (a1 a2 a3 : Int32) {w0 : Nat → Int32} (hN : ZtG w0 4 u) : Met l yX1_store (.code yX1_store cX1_store 4 (some .int) :: zwT) (zrm 2) (ZtB k [.ref (zta_this k), .int a1, .int a2, .int a3] u) (ZtQ k (some (.int (zt_store u a1 a2 a3).1)) (zt_store u a1 a2 a3).2) 0 0 (ZtA k) := by
  refine ztE_in (by decide) rfl (Nat.le_of_ble_eq_true rfl) Dk ?_
  intro p e s m below meth c ls C hr hlk hP hl
  have hx := C.1.1
  have hb := C.1.2.1
  have hl : lv_has ls 4 [(0, .ref (zta_this k)), (1, .int a1), (2, .int a2), (3, .int a3)] := hl
  have hS : va_S (ZtA k) s.heap s.heap [] := va_S.rf
  refine lv_aload_n hx hb dX1_store_0 rfl (lv_at hl 0 rfl) ?_
  refine lv_iload_n hx hb dX1_store_1 rfl (lv_at hl 1 rfl) ?_
  refine lv_aload_n hx hb dX1_store_2 rfl (lv_at hl 0 rfl) ?_
  refine ztG_top C hP dX1_store_3 ?_
  refine ztK_write C hP hS hl.1 (by decide) (Nat.le_of_ble_eq_true rfl) (by exact zt_Gle (by decide) (hN)) dX1_store_6 (fun u1 H locs hu1 hP hS => ?_)
  refine lv_aload_n hx hb dX1_store_9 rfl (lv_at hl 0 rfl) ?_
  refine lv_dup hx hb dX1_store_10 rfl ?_
  refine ztG_sp C hP dX1_store_11 ?_
  refine lv_iconst (v := 1) hx hb dX1_store_14 (by decide) ?_
  refine lv_isub hx hb dX1_store_15 ?_
  refine ztP_sp C hP hS dX1_store_16 (fun u2 H locs hu2 hP hS => ?_)
  refine lv_aload_n hx hb dX1_store_19 rfl (lv_at hl 0 rfl) ?_
  refine lv_aload_n hx hb dX1_store_20 rfl (lv_at hl 0 rfl) ?_
  refine lv_aload_n hx hb dX1_store_21 rfl (lv_at hl 0 rfl) ?_
  refine ztG_sp C hP dX1_store_22 ?_
  refine ztK_read C hP hS hl.1 (by decide) (Nat.le_of_ble_eq_true rfl) dX1_store_25 (fun r4 u3 H locs hr4 hu3 hP hS => ?_)
  refine ztP_top C hP hS dX1_store_28 (fun u5 H locs hu5 hP hS => ?_)
  refine lv_aload_n hx hb dX1_store_31 rfl (lv_at hl 0 rfl) ?_
  refine lv_aload_n hx hb dX1_store_32 rfl (lv_at hl 0 rfl) ?_
  refine ztG_pc C hP dX1_store_33 ?_
  refine lv_iload_n hx hb dX1_store_36 rfl (lv_at hl 2 rfl) ?_
  refine lv_iadd hx hb dX1_store_37 ?_
  refine ztP_next C hP hS dX1_store_38 (fun u6 H locs hu6 hP hS => ?_)
  refine lv_iload_n hx hb dX1_store_41 rfl (lv_at hl 3 rfl) ?_
  exact zt_iret C hr hlk hP hS (by subst hu1 hu2 hr4 hu3 hu5 hu6; exact rfl) dX1_store_42
section
variable {p : Program} {l : Launch} {e : Env} {R : Room} {s : State} {m : MethodId} {args : Array Value} {below : List Frame} {meth : Method} {c : Code} {H : Heap} {locs : List Loc} {Q : State → Prop} {cc : ByteArray} {pc nL : Nat} {ls : Array Slot} {rest : List Value} {k : Ztk} {u : Zts} {H0 : Heap}
set_option maxHeartbeats 4000000 in
set_option maxRecDepth 100000 in
theorem ztK_store {a1 a2 a3 : Int32} (C : ZtC p s m args c cc nL k) (hP : ZtP k u H) (hS : va_S (ZtA k) H0 H locs) (hsz : ls.size = nL) (hR : 2 + 1 ≤ R.frames ∧ 8 + (4 + 11) + 40 * 2 ≤ R.locals) (hw : (rest.map fun v => v.category).sum ≤ 8) {w0 : Nat → Int32} (hN : ZtG w0 4 u) (hdg : decode cc pc = .ok (.invokevirtual 85, 3)) (kk : ∀ (r1 : Int32) (u1 : Zts) (H1 : Heap) (locs1 : List Loc), r1 = (zt_store u a1 a2 a3).1 → u1 = (zt_store u a1 a2 a3).2 → ZtP k u1 H1 → va_S (ZtA k) H0 H1 locs1 → W p l e R s m args below meth c H1 locs1 0 0 Q (F0 m (pc + 3) ls (.int r1 :: rest))) : W p l e R s m args below meth c H locs 0 0 Q (F0 m pc ls (.int a3 :: .int a2 :: .int a1 :: .ref (zta_this k) :: rest)) :=
  zt_callV (y := yX1_store) (n := 3) (As := [.int a1, .int a2, .int a3]) C (ztM_store l k C.2.2 u a1 a2 a3 hN) zwT_c_store zwT_l_store zwT_i_store zwT_v_store rfl (by decide +kernel) hP hS hsz hR hw rfl hdg (fun H1 locs1 hP1 hS1 => kk _ _ H1 locs1 rfl rfl hP1 hS1)
end
theorem zt_G_store {w0 : Nat → Int32} {n : Nat} {u : Zts} (a1 a2 a3 : Int32) (hn : n ≤ 4) (h : ZtG w0 n u) : ZtG w0 (n + 1) (zt_store u a1 a2 a3).2 := by
  unfold zt_store
  dsimp only
  repeat' split
  all_goals first | exact zt_Gle (by omega) (zt_Gs_next _ (zt_Gs_top _ (zt_G_read _ (zt_Gs_sp _ (zt_G_write _ _ (by omega) (h))))))
def zt_swap (u : Zts) : Int32 × Zts :=
  let r2 := (zt_read u ((ztg_sp u) - 1)).1
  let u1 := (zt_read u ((ztg_sp u) - 1)).2
  let u3 := zt_write u1 (ztg_sp u1) r2
  let u4 := zt_write u3 ((ztg_sp u3) - 1) (ztg_top u3)
  let u5 := zts_top u4 r2
  (7, u5)
set_option maxHeartbeats 4000000 in
set_option maxRecDepth 100000 in
theorem ztM_swap (l : Launch) (k : Ztk) (Dk : ZtD k) (u : Zts) {w0 : Nat → Int32} (hN : ZtG w0 4 u) : Met l yX1_swap (.code yX1_swap cX1_swap 2 (some .int) :: zwT) (zrm 2) (ZtB k [.ref (zta_this k)] u) (ZtQ k (some (.int (zt_swap u ).1)) (zt_swap u ).2) 0 0 (ZtA k) := by
  refine ztE_in (by decide) rfl (Nat.le_of_ble_eq_true rfl) Dk ?_
  intro p e s m below meth c ls C hr hlk hP hl
  have hx := C.1.1
  have hb := C.1.2.1
  have hl : lv_has ls 2 [(0, .ref (zta_this k))] := hl
  have hS : va_S (ZtA k) s.heap s.heap [] := va_S.rf
  refine lv_aload_n hx hb dX1_swap_0 rfl (lv_at hl 0 rfl) ?_
  refine lv_aload_n hx hb dX1_swap_1 rfl (lv_at hl 0 rfl) ?_
  refine ztG_sp C hP dX1_swap_2 ?_
  refine lv_iconst (v := 1) hx hb dX1_swap_5 (by decide) ?_
  refine lv_isub hx hb dX1_swap_6 ?_
  refine ztK_read C hP hS hl.1 (by decide) (Nat.le_of_ble_eq_true rfl) dX1_swap_7 (fun r2 u1 H locs hr2 hu1 hP hS => ?_)
  refine lv_istore_n (lv' := [(1, .int r2), (0, .ref (zta_this k))]) hx hb dX1_swap_10 rfl hl (by decide) rfl (fun ls hl => ?_)
  refine lv_aload_n hx hb dX1_swap_11 rfl (lv_at hl 1 rfl) ?_
  refine lv_aload_n hx hb dX1_swap_12 rfl (lv_at hl 1 rfl) ?_
  refine ztG_sp C hP dX1_swap_13 ?_
  refine lv_iload_n hx hb dX1_swap_16 rfl (lv_at hl 0 rfl) ?_
  refine ztK_write C hP hS hl.1 (by decide) (Nat.le_of_ble_eq_true rfl) (by subst hr2 hu1; exact zt_Gle (by decide) (zt_G_read _ (hN))) dX1_swap_17 (fun u3 H locs hu3 hP hS => ?_)
  refine lv_aload_n hx hb dX1_swap_20 rfl (lv_at hl 1 rfl) ?_
  refine lv_aload_n hx hb dX1_swap_21 rfl (lv_at hl 1 rfl) ?_
  refine ztG_sp C hP dX1_swap_22 ?_
  refine lv_iconst (v := 1) hx hb dX1_swap_25 (by decide) ?_
  refine lv_isub hx hb dX1_swap_26 ?_
  refine lv_aload_n hx hb dX1_swap_27 rfl (lv_at hl 1 rfl) ?_
  refine ztG_top C hP dX1_swap_28 ?_
  refine ztK_write C hP hS hl.1 (by decide) (Nat.le_of_ble_eq_true rfl) (by subst hr2 hu1 hu3; exact zt_Gle (by decide) (zt_G_write _ _ (by omega) (zt_G_read _ (hN)))) dX1_swap_31 (fun u4 H locs hu4 hP hS => ?_)
  refine lv_aload_n hx hb dX1_swap_34 rfl (lv_at hl 1 rfl) ?_
  refine lv_iload_n hx hb dX1_swap_35 rfl (lv_at hl 0 rfl) ?_
  refine ztP_top C hP hS dX1_swap_36 (fun u5 H locs hu5 hP hS => ?_)
  refine lv_bipush (v := 7) hx hb dX1_swap_39 (by decide) ?_
  exact zt_iret C hr hlk hP hS (by subst hr2 hu1 hu3 hu4 hu5; exact rfl) dX1_swap_41
section
variable {p : Program} {l : Launch} {e : Env} {R : Room} {s : State} {m : MethodId} {args : Array Value} {below : List Frame} {meth : Method} {c : Code} {H : Heap} {locs : List Loc} {Q : State → Prop} {cc : ByteArray} {pc nL : Nat} {ls : Array Slot} {rest : List Value} {k : Ztk} {u : Zts} {H0 : Heap}
set_option maxHeartbeats 4000000 in
set_option maxRecDepth 100000 in
theorem ztK_swap (C : ZtC p s m args c cc nL k) (hP : ZtP k u H) (hS : va_S (ZtA k) H0 H locs) (hsz : ls.size = nL) (hR : 2 + 1 ≤ R.frames ∧ 8 + (2 + 11) + 40 * 2 ≤ R.locals) (hw : (rest.map fun v => v.category).sum ≤ 8) {w0 : Nat → Int32} (hN : ZtG w0 4 u) (hdg : decode cc pc = .ok (.invokevirtual 99, 3)) (kk : ∀ (r1 : Int32) (u1 : Zts) (H1 : Heap) (locs1 : List Loc), r1 = (zt_swap u ).1 → u1 = (zt_swap u ).2 → ZtP k u1 H1 → va_S (ZtA k) H0 H1 locs1 → W p l e R s m args below meth c H1 locs1 0 0 Q (F0 m (pc + 3) ls (.int r1 :: rest))) : W p l e R s m args below meth c H locs 0 0 Q (F0 m pc ls (.ref (zta_this k) :: rest)) :=
  zt_callV (y := yX1_swap) (n := 0) (As := []) C (ztM_swap l k C.2.2 u  hN) zwT_c_swap zwT_l_swap zwT_i_swap zwT_v_swap rfl (by decide +kernel) hP hS hsz hR hw rfl hdg (fun H1 locs1 hP1 hS1 => kk _ _ H1 locs1 rfl rfl hP1 hS1)
end
theorem zt_G_swap {w0 : Nat → Int32} {n : Nat} {u : Zts} (hn : n ≤ 4) (h : ZtG w0 n u) : ZtG w0 (n + 2) (zt_swap u ).2 := by
  unfold zt_swap
  dsimp only
  repeat' split
  all_goals first | exact zt_Gle (by omega) (zt_Gs_top _ (zt_G_write _ _ (by omega) (zt_G_write _ _ (by omega) (zt_G_read _ (h)))))

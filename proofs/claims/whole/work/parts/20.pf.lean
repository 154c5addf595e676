
def zJ (f : Nat → Int64) (x : Int32) : Nat → Int64 := vp_updL f (0 : Int32).toNatClampNeg x.toInt64
def zl_word (u : Zxs) (f : Nat → Int64) (a1 a2 : Int32) : Int32 × Zxs × (Nat → Int64) := if zx_isWord a1 = 0 then (1, u, f) else (0, zx_word u a1 a2, f)
def zl_code (u : Zxs) (f : Nat → Int64) (a1 a2 : Int32) : Int32 × Zxs × (Nat → Int64) := if zx_areBytes a1 4 = 0 then (1, u, f) else (0, zx_code u a1 a2, f)
def zl_look (u : Zxs) (f : Nat → Int64) (a1 : Int32) : Int32 × Zxs × (Nat → Int64) := if zx_isWord a1 = 0 then (1, u, f) else (0, u, zJ f (zx_look u a1))
def zl_register (u : Zxs) (f : Nat → Int64) (a1 : Int32) : Int32 × Zxs × (Nat → Int64) := if a1 = 0 ∨ a1 = 1 ∨ a1 = 2 ∨ a1 = 3 ∨ a1 = 4 ∨ a1 = 5 ∨ a1 = 6 ∨ a1 = 7 then (0, u, zJ f (zx_register u a1)) else (1, u, f)
def zl_run (u : Zxs) (f : Nat → Int64) (a1 : Int32) : Int32 × Zxs × (Nat → Int64) := if a1 < 0 ∨ 1000 < a1 then (1, u, f) else if zxg_state u = 0 then (0, (zx_run u a1).2, zJ f (zx_run u a1).1) else (2, u, f)
/-- both sides agree after a call -/
def Zcall (r : Int32 × Zxs × (Nat → Int64)) (v : Zts) : Prop := Zrel r.2.1 v ∧ Zbyt r.2.1 ∧ ztg_thrown v = r.1
theorem zJ_at (f : Nat → Int64) (x : Int32) : zJ f x (0 : Int32).toNatClampNeg = x.toInt64 := pk_uLs
theorem zc_word {u : Zxs} {v : Zts} (R : Zrel u v) (Y : Zbyt u) (f : Nat → Int64) (a1 a2 : Int32) : Zcall (zl_word u f a1 a2) (zt_word v a1 a2) := by
  unfold zl_word zt_word
  rw [zisW]
  by_cases h : zx_isWord a1 = 0
  · rw [if_pos h, if_pos h]; exact ⟨R, Y, rfl⟩
  · rw [if_neg h, if_neg h]
    unfold zx_word
    rw [if_neg h]
    obtain ⟨Rw, Rb, Rp, Rs, Rl, Rc, Rt, Rst, Rcy, Rd⟩ := R
    refine ⟨⟨?_, Rb, Rp, Rs, Rl, Rc, Rt, Rst, Rcy, Rd⟩, Y, rfl⟩
    show upd (ztg_words v) a1.toNatClampNeg a2 = upd (zxg_words u) a1.toNatClampNeg a2
    rw [Rw]
theorem z_b8 (x : Int32) : x.toInt8.toInt32 &&& 255 = x &&& 255 := by
  apply b_ext
  intro i hi
  rw [b_and, b_and, b_255]
  by_cases h : i < 8
  · simp only [h, decide_true, Bool.and_true]
    unfold bt
    show (x.toInt8.toBitVec.signExtend 32).getLsbD i = _
    rw [BitVec.getLsbD_signExtend]
    simp only [hi, h, decide_true, Bool.true_and, if_true]
    show (x.toBitVec.signExtend 8).getLsbD i = _
    rw [BitVec.getLsbD_signExtend]
    simp only [hi, h, decide_true, Bool.true_and, if_true]
  · simp only [h, decide_false, Bool.and_false]
theorem z_b88 (x : Int32) : x.toInt8.toInt32.toInt8.toInt32 = x.toInt8.toInt32 := by rw [Int8.toInt8_toInt32]
theorem zupd_and (g : Nat → Int32) (n : Nat) (x : Int32) : (fun i => upd g n x i &&& 255) = upd (fun i => g i &&& 255) n (x &&& 255) := by
  funext i
  by_cases h : i = n
  · rw [h, pk_us, pk_us]
  · rw [pk_un h, pk_un h]
theorem zupd_byt {g : Nat → Int32} (hg : ∀ i, (g i).toInt8.toInt32 = g i) (n : Nat) (x : Int32) : ∀ i, (upd g n (vp_nar .byte x.toInt8.toInt32) i).toInt8.toInt32 = upd g n (vp_nar .byte x.toInt8.toInt32) i := by
  intro i
  by_cases h : i = n
  · rw [h, pk_us, vp_nar_byte, z_b88, z_b88]
  · rw [pk_un h]; exact hg i
theorem z_nar (x : Int32) : vp_nar .byte x.toInt8.toInt32 &&& 255 = x &&& 255 := by rw [vp_nar_byte, z_b88, z_b8]
theorem zshr0 (a : Int32) : a >>> (((8 : Int32) * 0) &&& 31) = a := by
  apply b_ext
  intro i hi
  rw [show ((8 : Int32) * 0) &&& 31 = nI 0 &&& 31 from by decide, b_sshr 0 (by decide) _ hi, if_pos (by omega), Nat.zero_add]
theorem zc_code {u : Zxs} {v : Zts} (R : Zrel u v) (Y : Zbyt u) (f : Nat → Int64) (a1 a2 : Int32) : Zcall (zl_code u f a1 a2) (zt_code v a1 a2) := by
  unfold zl_code zt_code
  have e508 : (512 : Int32) - 4 = 508 := by decide
  by_cases h1 : a1 < 0
  · rw [if_pos h1, if_pos (show zx_areBytes a1 4 = 0 by unfold zx_areBytes; rw [if_pos h1])]
    exact ⟨R, Y, rfl⟩
  by_cases h2 : 508 < a1
  · rw [if_neg h1, if_pos h2, if_pos (show zx_areBytes a1 4 = 0 by unfold zx_areBytes; rw [if_neg h1, if_pos (by rw [e508]; exact h2)])]
    exact ⟨R, Y, rfl⟩
  have hn : ¬ zx_areBytes a1 4 = 0 := by
    unfold zx_areBytes
    rw [if_neg h1, if_neg (by rw [e508]; exact h2)]
    decide
  rw [if_neg h1, if_neg h2, if_neg hn]
  unfold zx_code
  rw [if_neg hn]
  obtain ⟨Rw, Rb, Rp, Rs, Rl, Rc, Rt, Rst, Rcy, Rd⟩ := R
  refine ⟨⟨Rw, ?_, Rp, Rs, Rl, Rc, Rt, Rst, Rcy, Rd⟩, ?_, rfl⟩
  · show upd (upd (upd (upd (ztg_bytes v) (a1 + 0).toNatClampNeg ((a2 >>> (((8 : Int32) * 0) &&& 31)) &&& 255)) (a1 + 1).toNatClampNeg ((a2 >>> (((8 : Int32) * 1) &&& 31)) &&& 255)) (a1 + 2).toNatClampNeg ((a2 >>> (((8 : Int32) * 2) &&& 31)) &&& 255)) (a1 + 3).toNatClampNeg ((a2 >>> (((8 : Int32) * 3) &&& 31)) &&& 255)
      = fun i => upd (upd (upd (upd (zxg_bytes u) a1.toNatClampNeg (vp_nar .byte (a2.toInt8.toInt32))) (a1 + 1).toNatClampNeg (vp_nar .byte ((a2 >>> ((8 : Int32) &&& 31)).toInt8.toInt32))) (a1 + 2).toNatClampNeg (vp_nar .byte ((a2 >>> ((16 : Int32) &&& 31)).toInt8.toInt32))) (a1 + 3).toNatClampNeg (vp_nar .byte ((a2 >>> ((24 : Int32) &&& 31)).toInt8.toInt32)) i &&& 255
    rw [zupd_and, zupd_and, zupd_and, zupd_and, z_nar, z_nar, z_nar, z_nar, Rb, zshr0, Int32.add_zero, show (8 : Int32) * 1 = 8 from by decide, show (8 : Int32) * 2 = 16 from by decide, show (8 : Int32) * 3 = 24 from by decide]
  · show ∀ i : Nat, (upd (upd (upd (upd (zxg_bytes u) a1.toNatClampNeg (vp_nar .byte (a2.toInt8.toInt32))) (a1 + 1).toNatClampNeg (vp_nar .byte ((a2 >>> ((8 : Int32) &&& 31)).toInt8.toInt32))) (a1 + 2).toNatClampNeg (vp_nar .byte ((a2 >>> ((16 : Int32) &&& 31)).toInt8.toInt32))) (a1 + 3).toNatClampNeg (vp_nar .byte ((a2 >>> ((24 : Int32) &&& 31)).toInt8.toInt32)) i).toInt8.toInt32 = _
    exact zupd_byt (zupd_byt (zupd_byt (zupd_byt Y _ _) _ _) _ _) _ _
theorem zc_boot {u : Zxs} {v : Zts} (R : Zrel u v) (Y : Zbyt u) (a1 a2 a3 a4 : Int32) : Zrel (zx_boot u a1 a2 a3 a4) (zt_boot v a1 a2 a3 a4) ∧ Zbyt (zx_boot u a1 a2 a3 a4) := by
  unfold zx_boot zt_boot
  dsimp only
  rw [zisW]
  obtain ⟨Rw, Rb, Rp, Rs, Rl, Rc, Rt, Rst, Rcy, Rd⟩ := R
  by_cases h : zx_isWord a2 = 0
  · rw [if_pos h, if_pos (show zx_isWord (ztg_sp (zts_cpp (zts_lv (zts_sp (zts_pc (zts_thrown v 0) a1) a2) a3) a4)) = 0 from h)]
    exact ⟨⟨Rw, Rb, rfl, rfl, rfl, rfl, rfl, rfl, rfl, rfl⟩, Y⟩
  · rw [if_neg h, if_neg (show ¬ zx_isWord (ztg_sp (zts_cpp (zts_lv (zts_sp (zts_pc (zts_thrown v 0) a1) a2) a3) a4)) = 0 from h)]
    refine ⟨⟨Rw, Rb, rfl, rfl, rfl, rfl, ?_, rfl, rfl, rfl⟩, Y⟩
    show ztg_words v a2.toNatClampNeg = zxg_words u a2.toNatClampNeg
    rw [Rw]
theorem zc_look {u : Zxs} {v : Zts} (R : Zrel u v) (Y : Zbyt u) (f : Nat → Int64) (a1 : Int32) : Zcall (zl_look u f a1) (zt_look v a1).2 ∧ ((zl_look u f a1).1 = 0 → (zl_look u f a1).2.2 (0 : Int32).toNatClampNeg = (zt_look v a1).1.toInt64) := by
  unfold zl_look zt_look
  rw [zisW]
  by_cases h : zx_isWord a1 = 0
  · rw [if_pos h, if_pos h]; exact ⟨⟨R, Y, rfl⟩, fun q => absurd (show (1 : Int32) = 0 from q) (by decide)⟩
  · rw [if_neg h, if_neg h]
    refine ⟨⟨R, Y, rfl⟩, fun _ => ?_⟩
    show zJ f (zx_look u a1) (0 : Int32).toNatClampNeg = (ztg_words v a1.toNatClampNeg).toInt64
    rw [zJ_at]
    unfold zx_look
    rw [if_neg h, R.1]
theorem zc_register {u : Zxs} {v : Zts} (R : Zrel u v) (Y : Zbyt u) (f : Nat → Int64) (a1 : Int32) : Zcall (zl_register u f a1) (zt_register v a1).2 ∧ ((zl_register u f a1).1 = 0 → (zl_register u f a1).2.2 (0 : Int32).toNatClampNeg = (zt_register v a1).1.toInt64) := by
  have good : ∀ (w : Int32), (a1 = 0 ∨ a1 = 1 ∨ a1 = 2 ∨ a1 = 3 ∨ a1 = 4 ∨ a1 = 5 ∨ a1 = 6 ∨ a1 = 7) → zx_register u a1 = w → zt_register v a1 = (w, zts_thrown v 0) → Zcall (zl_register u f a1) (zt_register v a1).2 ∧ ((zl_register u f a1).1 = 0 → (zl_register u f a1).2.2 (0 : Int32).toNatClampNeg = (zt_register v a1).1.toInt64) := by
    intro w h e1 e2
    unfold zl_register
    rw [if_pos h, e2, e1]
    exact ⟨⟨R, Y, rfl⟩, fun _ => zJ_at f w⟩
  by_cases c0 : a1 = 0
  · subst c0
    refine good (zxg_pc u) (Or.inl rfl) ?_ ?_
    · unfold zx_register; rw [if_pos (show (0 : Int32) = 0 from rfl)]
    · unfold zt_register; rw [if_neg (show ¬ (0 : Int32) < 0 from by decide), if_pos (show (0 : Int32) ≤ 7 from by decide)]; dsimp only; rw [if_pos (show (0 : Int32) = 0 from rfl)]; exact Prod.ext R.2.2.1 rfl
  by_cases c1 : a1 = 1
  · subst c1
    refine good (zxg_sp u) (Or.inr (Or.inl rfl)) ?_ ?_
    · unfold zx_register; rw [if_neg (show ¬ (1 : Int32) = 0 from by decide), if_pos (show (1 : Int32) = 1 from rfl)]
    · unfold zt_register; rw [if_neg (show ¬ (1 : Int32) < 0 from by decide), if_pos (show (1 : Int32) ≤ 7 from by decide)]; dsimp only; rw [if_neg (show ¬ (1 : Int32) = 0 from by decide), if_pos (show (1 : Int32) = 1 from rfl)]; exact Prod.ext R.2.2.2.1 rfl
  by_cases c2 : a1 = 2
  · subst c2
    refine good (zxg_lv u) (Or.inr (Or.inr (Or.inl rfl))) ?_ ?_
    · unfold zx_register; rw [if_neg (show ¬ (2 : Int32) = 0 from by decide), if_neg (show ¬ (2 : Int32) = 1 from by decide), if_pos (show (2 : Int32) = 2 from rfl)]
    · unfold zt_register; rw [if_neg (show ¬ (2 : Int32) < 0 from by decide), if_pos (show (2 : Int32) ≤ 7 from by decide)]; dsimp only; rw [if_neg (show ¬ (2 : Int32) = 0 from by decide), if_neg (show ¬ (2 : Int32) = 1 from by decide), if_pos (show (2 : Int32) = 2 from rfl)]; exact Prod.ext R.2.2.2.2.1 rfl
  by_cases c3 : a1 = 3
  · subst c3
    refine good (zxg_cpp u) (Or.inr (Or.inr (Or.inr (Or.inl rfl)))) ?_ ?_
    · unfold zx_register; rw [if_neg (show ¬ (3 : Int32) = 0 from by decide), if_neg (show ¬ (3 : Int32) = 1 from by decide), if_neg (show ¬ (3 : Int32) = 2 from by decide), if_pos (show (3 : Int32) = 3 from rfl)]
    · unfold zt_register; rw [if_neg (show ¬ (3 : Int32) < 0 from by decide), if_pos (show (3 : Int32) ≤ 7 from by decide)]; dsimp only; rw [if_neg (show ¬ (3 : Int32) = 0 from by decide), if_neg (show ¬ (3 : Int32) = 1 from by decide), if_neg (show ¬ (3 : Int32) = 2 from by decide), if_pos (show (3 : Int32) = 3 from rfl)]; exact Prod.ext R.2.2.2.2.2.1 rfl
  by_cases c4 : a1 = 4
  · subst c4
    refine good (zxg_top u) (Or.inr (Or.inr (Or.inr (Or.inr (Or.inl rfl))))) ?_ ?_
    · unfold zx_register; rw [if_neg (show ¬ (4 : Int32) = 0 from by decide), if_neg (show ¬ (4 : Int32) = 1 from by decide), if_neg (show ¬ (4 : Int32) = 2 from by decide), if_neg (show ¬ (4 : Int32) = 3 from by decide), if_pos (show (4 : Int32) = 4 from rfl)]
    · unfold zt_register; rw [if_neg (show ¬ (4 : Int32) < 0 from by decide), if_pos (show (4 : Int32) ≤ 7 from by decide)]; dsimp only; rw [if_neg (show ¬ (4 : Int32) = 0 from by decide), if_neg (show ¬ (4 : Int32) = 1 from by decide), if_neg (show ¬ (4 : Int32) = 2 from by decide), if_neg (show ¬ (4 : Int32) = 3 from by decide), if_pos (show (4 : Int32) = 4 from rfl)]; exact Prod.ext R.2.2.2.2.2.2.1 rfl
  by_cases c5 : a1 = 5
  · subst c5
    refine good (zxg_state u) (Or.inr (Or.inr (Or.inr (Or.inr (Or.inr (Or.inl rfl)))))) ?_ ?_
    · unfold zx_register; rw [if_neg (show ¬ (5 : Int32) = 0 from by decide), if_neg (show ¬ (5 : Int32) = 1 from by decide), if_neg (show ¬ (5 : Int32) = 2 from by decide), if_neg (show ¬ (5 : Int32) = 3 from by decide), if_neg (show ¬ (5 : Int32) = 4 from by decide), if_pos (show (5 : Int32) = 5 from rfl)]
    · unfold zt_register; rw [if_neg (show ¬ (5 : Int32) < 0 from by decide), if_pos (show (5 : Int32) ≤ 7 from by decide)]; dsimp only; rw [if_neg (show ¬ (5 : Int32) = 0 from by decide), if_neg (show ¬ (5 : Int32) = 1 from by decide), if_neg (show ¬ (5 : Int32) = 2 from by decide), if_neg (show ¬ (5 : Int32) = 3 from by decide), if_neg (show ¬ (5 : Int32) = 4 from by decide), if_pos (show (5 : Int32) = 5 from rfl)]; exact Prod.ext R.2.2.2.2.2.2.2.1 rfl
  by_cases c6 : a1 = 6
  · subst c6
    refine good (zxg_cycles u) (Or.inr (Or.inr (Or.inr (Or.inr (Or.inr (Or.inr (Or.inl rfl))))))) ?_ ?_
    · unfold zx_register; rw [if_neg (show ¬ (6 : Int32) = 0 from by decide), if_neg (show ¬ (6 : Int32) = 1 from by decide), if_neg (show ¬ (6 : Int32) = 2 from by decide), if_neg (show ¬ (6 : Int32) = 3 from by decide), if_neg (show ¬ (6 : Int32) = 4 from by decide), if_neg (show ¬ (6 : Int32) = 5 from by decide), if_pos (show (6 : Int32) = 6 from rfl)]
    · unfold zt_register; rw [if_neg (show ¬ (6 : Int32) < 0 from by decide), if_pos (show (6 : Int32) ≤ 7 from by decide)]; dsimp only; rw [if_neg (show ¬ (6 : Int32) = 0 from by decide), if_neg (show ¬ (6 : Int32) = 1 from by decide), if_neg (show ¬ (6 : Int32) = 2 from by decide), if_neg (show ¬ (6 : Int32) = 3 from by decide), if_neg (show ¬ (6 : Int32) = 4 from by decide), if_neg (show ¬ (6 : Int32) = 5 from by decide), if_pos (show (6 : Int32) = 6 from rfl)]; exact Prod.ext R.2.2.2.2.2.2.2.2.1 rfl
  by_cases c7 : a1 = 7
  · subst c7
    refine good (zxg_instructions u) (Or.inr (Or.inr (Or.inr (Or.inr (Or.inr (Or.inr (Or.inr (rfl)))))))) ?_ ?_
    · unfold zx_register; rw [if_neg (show ¬ (7 : Int32) = 0 from by decide), if_neg (show ¬ (7 : Int32) = 1 from by decide), if_neg (show ¬ (7 : Int32) = 2 from by decide), if_neg (show ¬ (7 : Int32) = 3 from by decide), if_neg (show ¬ (7 : Int32) = 4 from by decide), if_neg (show ¬ (7 : Int32) = 5 from by decide), if_neg (show ¬ (7 : Int32) = 6 from by decide), if_pos (show (7 : Int32) = 7 from rfl)]
    · unfold zt_register; rw [if_neg (show ¬ (7 : Int32) < 0 from by decide), if_pos (show (7 : Int32) ≤ 7 from by decide)]; dsimp only; rw [if_neg (show ¬ (7 : Int32) = 0 from by decide), if_neg (show ¬ (7 : Int32) = 1 from by decide), if_neg (show ¬ (7 : Int32) = 2 from by decide), if_neg (show ¬ (7 : Int32) = 3 from by decide), if_neg (show ¬ (7 : Int32) = 4 from by decide), if_neg (show ¬ (7 : Int32) = 5 from by decide), if_neg (show ¬ (7 : Int32) = 6 from by decide), if_pos (show (7 : Int32) = 7 from rfl)]; exact Prod.ext R.2.2.2.2.2.2.2.2.2 rfl
  have hno : ¬ (a1 = 0 ∨ a1 = 1 ∨ a1 = 2 ∨ a1 = 3 ∨ a1 = 4 ∨ a1 = 5 ∨ a1 = 6 ∨ a1 = 7) := by
    rintro (h | h | h | h | h | h | h | h)
    · exact c0 h
    · exact c1 h
    · exact c2 h
    · exact c3 h
    · exact c4 h
    · exact c5 h
    · exact c6 h
    · exact c7 h
  have e2 : zt_register v a1 = (0, zts_thrown v 1) := by
    unfold zt_register
    by_cases h1 : a1 < 0
    · rw [if_pos h1]; dsimp only; rw [if_neg c0, if_neg c1, if_neg c2, if_neg c3, if_neg c4, if_neg c5, if_neg c6, if_neg c7]
    · rw [if_neg h1]
      have h2 : ¬ a1 ≤ 7 := by
        intro h
        obtain ⟨q, hq, rfl⟩ := nI_of h1
        have : q ≤ 7 := Nat.le_of_not_lt (fun g => absurd h (Int32.not_le.mpr (nI_lt (a := 7) g hq)))
        apply hno
        rcases (show q = 0 ∨ q = 1 ∨ q = 2 ∨ q = 3 ∨ q = 4 ∨ q = 5 ∨ q = 6 ∨ q = 7 by omega) with rfl | rfl | rfl | rfl | rfl | rfl | rfl | rfl <;> decide
      rw [if_neg h2]; dsimp only; rw [if_neg c0, if_neg c1, if_neg c2, if_neg c3, if_neg c4, if_neg c5, if_neg c6, if_neg c7]
  unfold zl_register
  rw [if_neg hno, e2]
  exact ⟨⟨R, Y, rfl⟩, fun q => absurd (show (1 : Int32) = 0 from q) (by decide)⟩
theorem zt_U_thrown (w : Zts) : ztg_thrown (zt_undone w) = ztg_thrown w := congrFun (show (fun w => ztg_thrown (zt_undone w)) = (fun w => ztg_thrown w) from rfl) w
set_option maxHeartbeats 4000000 in
theorem zt_step_thrown (v : Zts) : ztg_thrown (zt_step v) = ztg_thrown v := by
  unfold zt_step
  dsimp only
  have h0 : ztg_thrown (zts_writes (zts_unknown (zts_amiss v 0) 0) 0) = ztg_thrown v := rfl
  generalize zts_writes (zts_unknown (zts_amiss v 0) 0) 0 = w at h0 ⊢
  have h1 : ztg_thrown (zt_byteAt w (ztg_pc w)).2 = ztg_thrown v := by simp only [zt_P_byteAt]; exact h0
  generalize (zt_byteAt w (ztg_pc w)).2 = x at h1 ⊢
  have h2 : ztg_thrown (zt_perform x (zt_byteAt w (ztg_pc w)).1).2 = ztg_thrown v := by simp only [zt_F_perform]; exact h1
  generalize (zt_perform x (zt_byteAt w (ztg_pc w)).1).2 = y at h2 ⊢
  generalize (zt_perform x (zt_byteAt w (ztg_pc w)).1).1 = r
  repeat' split
  all_goals simp only [zt_S_sp, zt_S_top, zt_S_lv, zt_S_pc, zt_S_cycles, zt_S_done, zt_S_state, zt_U_thrown]
  all_goals first | exact h1 | exact h2
theorem zsteps : ∀ (n : Nat) {u : Zxs} {v : Zts}, Zrel u v → Zbyt u → Zrel (Zxsteps n u) (Ztsteps n v) ∧ Zbyt (Zxsteps n u) ∧ ztg_thrown (Ztsteps n v) = ztg_thrown v := by
  intro n
  induction n with
  | zero => intro u v R Y; exact ⟨R, Y, rfl⟩
  | succ n ih =>
    intro u v R Y
    unfold Zxsteps Ztsteps
    by_cases h : zxg_state u = 0
    · rw [if_pos h, if_pos (by rw [R.2.2.2.2.2.2.2.1]; exact h)]
      obtain ⟨a, b⟩ := zstep R Y h
      obtain ⟨c, d, e⟩ := ih a b
      exact ⟨c, d, e.trans (zt_step_thrown v)⟩
    · rw [if_neg h, if_neg (by rw [R.2.2.2.2.2.2.2.1]; exact h)]
      exact ⟨R, Y, rfl⟩
theorem zc_run {u : Zxs} {v : Zts} (R : Zrel u v) (Y : Zbyt u) (f : Nat → Int64) (a1 : Int32) : Zcall (zl_run u f a1) (zt_run v a1).2 ∧ ((zl_run u f a1).1 = 0 → (zl_run u f a1).2.2 (0 : Int32).toNatClampNeg = (zt_run v a1).1.toInt64) := by
  unfold zl_run zt_run
  by_cases h1 : a1 < 0
  · rw [if_pos (Or.inl h1), if_pos h1]; exact ⟨⟨R, Y, rfl⟩, fun q => absurd (show (1 : Int32) = 0 from q) (by decide)⟩
  by_cases h2 : a1 ≤ 1000
  · rw [if_neg (show ¬ (a1 < 0 ∨ 1000 < a1) from fun q => q.elim h1 (fun q => absurd q (Int32.not_lt.mpr h2))), if_neg h1, if_pos h2]
    have hs := R.2.2.2.2.2.2.2.1
    by_cases h3 : zxg_state u = 0
    · rw [if_pos h3, if_pos (by rw [hs]; exact h3)]
      have R0 : Zrel u (zts_thrown v 0) := R
      obtain ⟨a, b, c⟩ := zsteps a1.toNatClampNeg R0 Y
      have ex : zx_run u a1 = (zxg_instructions (Zxsteps a1.toNatClampNeg u) - zxg_instructions u, Zxsteps a1.toNatClampNeg u) := by
        unfold zx_run
        rw [if_neg h1, if_pos h2, if_pos h3]
      rw [ex]
      refine ⟨⟨a, b, c⟩, fun _ => ?_⟩
      show zJ f (zxg_instructions (Zxsteps a1.toNatClampNeg u) - zxg_instructions u) (0 : Int32).toNatClampNeg = (ztg_done (Ztsteps a1.toNatClampNeg (zts_thrown v 0)) - ztg_done (zts_thrown v 0)).toInt64
      rw [zJ_at, a.2.2.2.2.2.2.2.2.2, R0.2.2.2.2.2.2.2.2.2]
    · rw [if_neg h3, if_neg (by rw [hs]; exact h3)]
      exact ⟨⟨R, Y, rfl⟩, fun q => absurd (show (2 : Int32) = 0 from q) (by decide)⟩
  · rw [if_pos (Or.inr (Int32.not_le.mp h2)), if_neg h1, if_neg h2]
    exact ⟨⟨R, Y, rfl⟩, fun q => absurd (show (1 : Int32) = 0 from q) (by decide)⟩
theorem zc_sum {u : Zxs} {v : Zts} (R : Zrel u v) : Zrel u (zt_sum v).2 ∧ zx_sum u = (zt_sum v).1 := by
  refine ⟨R, ?_⟩
  show zsum (zxg_words u) 256 = zsum (ztg_words v) 256
  rw [R.1]
theorem zc_0 : Zrel zx0 zt0 ∧ Zbyt zx0 := ⟨⟨rfl, funext (fun _ => (by decide : (0 : Int32) = 0 &&& 255)), rfl, rfl, rfl, rfl, rfl, rfl, rfl, rfl⟩, fun _ => (by decide : (0 : Int32).toInt8.toInt32 = 0)⟩

section ZV4
variable {u : Zxs} {v : Zts}
set_option maxHeartbeats 4000000 in
theorem zo_enter (R : Zrel u v) (A : ztg_amiss v = 0) (N : ztg_unknown v = 0) (B : zinB (zxg_pc u)) : ZFin u (zx_enter u) (zt_call v) := by
  have R' := R
  obtain ⟨Rw, Rb, Rp, Rs, Rl, Rc, Rt, Rst, Rcy, Rd⟩ := R'
  generalize e2 : (zt_pair v (zxg_pc u + 1)).1 = r2
  generalize f1 : (zt_pair v (zxg_pc u + 1)).2 = v1
  generalize e4 : (zt_read v1 (zxg_cpp u + r2)).1 = r4
  generalize f3 : (zt_read v1 (zxg_cpp u + r2)).2 = v3
  generalize e6 : (zt_pair v3 r4).1 = r6
  generalize f5 : (zt_pair v3 r4).2 = v5
  generalize e8 : (zt_pair v5 (r4 + 2)).1 = r8
  generalize f7 : (zt_pair v5 (r4 + 2)).2 = v7
  have R1 : Zrel u v1 := by rw [← f1]; exact R.pair _
  have R3 : Zrel u v3 := by rw [← f3]; exact R1.read _
  have R5 : Zrel u v5 := by rw [← f5]; exact R3.pair _
  have R7 : Zrel u v7 := by rw [← f7]; exact R5.pair _
  have N7 : ztg_unknown v7 = 0 := by rw [← f7]; apply zn_pair; rw [← f5]; apply zn_pair; rw [← f3]; apply zn_read; rw [← f1]; apply zn_pair; exact N
  have a1 : (ztg_amiss v1 = 0) ↔ (ztg_amiss v = 0 ∧ zinB (zxg_pc u + 1) ∧ zinB (zxg_pc u + 1 + 1)) := by rw [← f1]; exact zt_A_pair _ _
  have a3 : (ztg_amiss v3 = 0) ↔ (ztg_amiss v1 = 0 ∧ ¬ zx_isWord (zxg_cpp u + r2) = 0) := by rw [← f3]; exact zt_A_read _ _
  have a5 : (ztg_amiss v5 = 0) ↔ (ztg_amiss v3 = 0 ∧ zinB r4 ∧ zinB (r4 + 1)) := by rw [← f5]; exact zt_A_pair _ _
  have a7 : (ztg_amiss v7 = 0) ↔ (ztg_amiss v5 = 0 ∧ zinB (r4 + 2) ∧ zinB (r4 + 2 + 1)) := by rw [← f7]; exact zt_A_pair _ _
  have hc : zt_call v = (23, zts_next (zts_top (zts_lv (zt_write (zts_sp (zt_write (zt_write v7 (zxg_sp u - r6 + 1) (zxg_sp u + r8 + 1)) (zxg_sp u + r8 + 1) (zxg_pc u + 3)) (zxg_sp u + r8 + 1 + 1)) (zxg_sp u + r8 + 1 + 1) (zxg_lv u)) (zxg_sp u - r6 + 1)) (zxg_sp u - r6 + 1)) (r4 + 4)) := by
    unfold zt_call
    dsimp only
    rw [Rp, Rc, e2, f1, e4, f3, e6, f5, e8, f7]
    simp only [R7.2.2.2.1, zt_P_write, R7.2.2.1, zt_S_sp, R7.2.2.2.2.1]
  have hA : (ztg_amiss (zt_call v).2 = 0) ↔ (((ztg_amiss v7 = 0 ∧ ¬ zx_isWord (zxg_sp u - r6 + 1) = 0) ∧ ¬ zx_isWord (zxg_sp u + r8 + 1) = 0) ∧ ¬ zx_isWord (zxg_sp u + r8 + 1 + 1) = 0) := by
    rw [hc]
    simp only [zt_S_next, zt_S_top, zt_S_lv, zt_A_write, zt_S_sp]
  unfold zx_enter
  by_cases h0 : zx_areBytes (zxg_pc u) 3 = 0
  · rw [if_pos h0]
    refine Or.inr (Or.inl ⟨fun q => ?_, rfl⟩)
    have q1 := (a1.mp (a3.mp (a5.mp (a7.mp (hA.mp q).1.1.1).1).1).1).2.2
    rw [zadd11] at q1
    exact (zaB3 _).mp h0 ⟨B, q1⟩
  rw [if_neg h0]
  have hb := zaB3' h0
  have hb2 : zinB (zxg_pc u + 1 + 1) := by rw [zadd11]; exact hb.2.2
  have g2 : r2 = zx_unsignedPair u (zxg_pc u + 1) := by rw [← e2]; exact zv_up R hb.2.1 hb2
  rw [← g2]
  by_cases h1 : zx_isWord (zxg_cpp u + r2) = 0
  · rw [if_pos h1]
    exact Or.inr (Or.inl ⟨fun q => (a3.mp (a5.mp (a7.mp (hA.mp q).1.1.1).1).1).2 h1, rfl⟩)
  rw [if_neg h1]
  have g4 : r4 = zxg_words u (zxg_cpp u + r2).toNatClampNeg := by rw [← e4]; exact zv_rd R1 h1
  rw [← g4]
  by_cases h2 : zx_areBytes r4 4 = 0
  · rw [if_pos h2]
    refine Or.inr (Or.inl ⟨fun q => ?_, rfl⟩)
    have q7 := a7.mp (hA.mp q).1.1.1
    have q5 := a5.mp q7.1
    have q3 := q7.2.2
    rw [zadd21] at q3
    exact (zaB4 _).mp h2 ⟨q5.2.1, q3⟩
  rw [if_neg h2]
  have hm := zaB4' h2
  have hm3 : zinB (r4 + 2 + 1) := by rw [zadd21]; exact hm.2.2.2
  have g6 : r6 = zx_unsignedPair u r4 := by rw [← e6]; exact zv_up R3 hm.1 hm.2.1
  have g8 : r8 = zx_unsignedPair u (r4 + 2) := by rw [← e8]; exact zv_up R5 hm.2.2.1 hm3
  rw [← g6, ← g8]
  have A7 : ztg_amiss v7 = 0 := a7.mpr ⟨a5.mpr ⟨a3.mpr ⟨a1.mpr ⟨A, hb.2.1, hb2⟩, h1⟩, hm.1, hm.2.1⟩, hm.2.2.1, hm3⟩
  by_cases h3 : zx_isWord (zxg_sp u - r6 + 1) = 0
  · rw [if_pos h3]
    exact Or.inr (Or.inl ⟨fun q => (hA.mp q).1.1.2 h3, rfl⟩)
  rw [if_neg h3]
  by_cases h4 : zx_isWord (zxg_sp u + r8 + 1) = 0
  · rw [if_pos h4]
    exact Or.inr (Or.inl ⟨fun q => (hA.mp q).1.2 h4, rfl⟩)
  rw [if_neg h4]
  by_cases h5 : zx_isWord (zxg_sp u + r8 + 1 + 1) = 0
  · rw [if_pos h5]
    exact Or.inr (Or.inl ⟨fun q => (hA.mp q).2 h5, rfl⟩)
  rw [if_neg h5]
  refine Or.inl ⟨hA.mpr ⟨⟨⟨A7, h3⟩, h4⟩, h5⟩, ?_⟩
  rw [hc]
  refine ⟨?_, ?_, rfl, ?_, ?_, ?_, rfl, ?_, rfl, rfl, rfl⟩
  · simp only [zt_S_next, zt_S_top, zt_S_lv, zt_P_write, zt_S_sp]
    exact N7
  · simp only [zt_S_next, zt_S_top, zt_S_lv, zt_W_write, zt_S_sp, h3, h4, h5, ↓reduceIte, R7.1]
    rfl
  all_goals simp only [zt_S_next, zt_S_top, zt_S_lv, zt_P_write, zt_S_sp]
  all_goals first | done | rfl
end ZV4

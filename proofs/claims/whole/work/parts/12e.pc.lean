section ZV2
variable {u : Zxs} {v : Zts}
/-- a jump's target by both -/
theorem zv_sp (R : Zrel u v) (Y : Zbyt u) {a : Int32} (h1 : zinB a) (h2 : zinB (a + 1)) : zt_signed (zt_pair v a).1 16 = zx_signedPair u a := by
  rw [zt_V_pair h1 h2, R.2.1]; exact z_s16 _ (Y _)
theorem zt_jump1 (v : Zts) (c n : Int32) : zt_jump v 1 c n = (c, zts_next (zt_pair v (ztg_pc v + 1)).2 (ztg_pc v + zt_signed (zt_pair v (ztg_pc v + 1)).1 16)) := by
  have h : ¬ ((1 : Int32) = 0) := by decide
  unfold zt_jump
  rw [if_neg h, if_neg h]
theorem zt_jump0 (v : Zts) (c n : Int32) : zt_jump v 0 c n = (n, zts_next v (ztg_pc v + 3)) := by
  unfold zt_jump
  rw [if_pos rfl, if_pos rfl]
theorem zt_jumpN (v : Zts) {b : Int32} (h : ¬ b = 0) (c n : Int32) : zt_jump v b c n = (c, zts_next (zt_pair v (ztg_pc v + 1)).2 (ztg_pc v + zt_signed (zt_pair v (ztg_pc v + 1)).1 16)) := by
  unfold zt_jump
  rw [if_neg h, if_neg h]
theorem zo_jump (R : Zrel u v) (Y : Zbyt u) (A : ztg_amiss v = 0) (N : ztg_unknown v = 0) (B : zinB (zxg_pc u)) (c n : Int32) : ZFin u (zx_jump u c) (zt_jump v 1 c n) := by
  rw [zt_jump1, R.2.2.1]
  unfold zx_jump
  by_cases h : zx_areBytes (zxg_pc u) 3 = 0
  · rw [if_pos h]
    refine Or.inr (Or.inl ⟨?_, rfl⟩)
    simp only [zt_S_next, zt_A_pair, zadd11]
    exact fun q => (zaB3 _).mp h ⟨B, q.2.2⟩
  rw [if_neg h]
  have hb := zaB3' h
  have h2 : zinB (zxg_pc u + 1 + 1) := by rw [zadd11]; exact hb.2.2
  rw [zv_sp R Y hb.2.1 h2]
  obtain ⟨Rw, Rb, Rp, Rs, Rl, Rc, Rt, Rst, Rcy, Rd⟩ := R
  refine Or.inl ⟨?_, ?_, ?_, rfl, ?_, ?_, ?_, rfl, ?_, rfl, rfl, rfl⟩
  · simp only [zt_S_next]
    exact (zt_A_pair v _).mpr ⟨A, hb.2.1, h2⟩
  all_goals simp only [zt_S_next, zt_P_pair, Rw, Rs, Rl, Rt, N]
  all_goals first | done | rfl
end ZV2

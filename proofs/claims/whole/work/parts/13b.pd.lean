section ZV4
variable {u : Zxs} {v : Zts}
theorem zt_A_reckon (v : Zts) (a : Int32) : (ztg_amiss (zt_reckon v a).2 = 0) ↔ (ztg_amiss v = 0 ∧ ¬ zx_isWord (ztg_sp v - 1) = 0) := by
  unfold zt_reckon
  dsimp only
  repeat' split
  all_goals simp only [zt_A_write, zt_S_top, zt_S_sp, zt_A_read, zt_P_read, and_assoc, and_self]
theorem zo_combine (R : Zrel u v) (A : ztg_amiss v = 0) (N : ztg_unknown v = 0) (NX : ztg_next v = zxg_pc u + 1) (a : Int32) : ZFin u (zx_combine u a) (zt_reckon v a) := by
  have hA := zt_A_reckon v a
  obtain ⟨Rw, Rb, Rp, Rs, Rl, Rc, Rt, Rst, Rcy, Rd⟩ := R
  rw [Rs] at hA
  unfold zx_combine
  by_cases h : zx_isWord (zxg_sp u - 1) = 0
  · rw [if_pos h]
    exact Or.inr (Or.inl ⟨fun q => (hA.mp q).2 h, rfl⟩)
  rw [if_neg h]
  refine Or.inl ⟨hA.mpr ⟨A, h⟩, ?_⟩
  unfold zt_reckon zx_combined
  dsimp only
  by_cases c1 : a = 96
  · simp only [c1, ↓reduceIte]
    refine ⟨?_, ?_, rfl, ?_, ?_, ?_, rfl, ?_, rfl, rfl, rfl⟩
    all_goals simp only [zt_P_write, zt_W_write, zt_S_top, zt_S_sp, zt_P_read, zt_V_read, Rw, Rl, Rs, Rt, N, NX, h, ↓reduceIte]
    all_goals first | done | rfl
  by_cases c2 : a = 100
  · simp only [c2, ↓reduceIte, show ¬ ((100 : Int32) = 96) from by decide]
    refine ⟨?_, ?_, rfl, ?_, ?_, ?_, rfl, ?_, rfl, rfl, rfl⟩
    all_goals simp only [zt_P_write, zt_W_write, zt_S_top, zt_S_sp, zt_P_read, zt_V_read, Rw, Rl, Rs, Rt, N, NX, h, ↓reduceIte]
    all_goals first | done | rfl
  by_cases c3 : a = 126
  · simp only [c3, ↓reduceIte, show ¬ ((126 : Int32) = 96) from by decide, show ¬ ((126 : Int32) = 100) from by decide]
    refine ⟨?_, ?_, rfl, ?_, ?_, ?_, rfl, ?_, rfl, rfl, rfl⟩
    all_goals simp only [zt_P_write, zt_W_write, zt_S_top, zt_S_sp, zt_P_read, zt_V_read, Rw, Rl, Rs, Rt, N, NX, h, ↓reduceIte]
    all_goals first | done | rfl
  · simp only [c1, c2, c3, ↓reduceIte]
    refine ⟨?_, ?_, rfl, ?_, ?_, ?_, rfl, ?_, rfl, rfl, rfl⟩
    all_goals simp only [zt_P_write, zt_W_write, zt_S_top, zt_S_sp, zt_P_read, zt_V_read, Rw, Rl, Rs, Rt, N, NX, h, ↓reduceIte]
    all_goals first | done | rfl
end ZV4

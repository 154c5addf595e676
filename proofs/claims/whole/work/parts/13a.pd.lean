
section ZV4
variable {u : Zxs} {v : Zts}
theorem zo_pop (R : Zrel u v) (A : ztg_amiss v = 0) (N : ztg_unknown v = 0) (NX : ztg_next v = zxg_pc u + 1) : ZFin u (zx_pop u) (4, zts_top (zt_read (zts_sp v (ztg_sp v - 1)) (ztg_sp v - 1)).2 (zt_read (zts_sp v (ztg_sp v - 1)) (ztg_sp v - 1)).1) := by
  obtain ⟨Rw, Rb, Rp, Rs, Rl, Rc, Rt, Rst, Rcy, Rd⟩ := R
  unfold zx_pop
  rw [Rs]
  by_cases h : zx_isWord (zxg_sp u - 1) = 0
  · rw [if_pos h]
    refine Or.inr (Or.inl ⟨?_, rfl⟩)
    simp only [zt_S_top, zt_A_read]
    exact fun q => q.2 h
  rw [if_neg h]
  refine Or.inl ⟨?_, ?_, ?_, rfl, ?_, ?_, ?_, rfl, ?_, rfl, rfl, rfl⟩
  · simp only [zt_S_top, zt_A_read, zt_S_sp]
    exact ⟨A, h⟩
  all_goals simp only [zt_S_top, zt_S_sp, zt_P_read, zt_V_read, Rw, Rl, N, NX, h, ↓reduceIte]
  all_goals first | done | rfl
end ZV4

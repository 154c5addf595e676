section ZV4
variable {u : Zxs} {v : Zts}
theorem zo_like (R : Zrel u v) (Y : Zbyt u) (A : ztg_amiss v = 0) (N : ztg_unknown v = 0) (B : zinB (zxg_pc u)) : ZFin u (zx_jumpOnLike u) (zt_ifs v 159) := by
  have hsp : ztg_sp (zt_read v (ztg_sp v - 1)).2 = ztg_sp v := by simp only [zt_P_read]
  unfold zt_ifs
  simp only [↓reduceIte, zt_S_sp, hsp]
  rw [R.2.2.2.1, R.2.2.2.2.2.2.1]
  unfold zx_jumpOnLike
  by_cases h1 : zx_isWord (zxg_sp u - 1) = 0
  · rw [if_pos h1]
    refine Or.inr (Or.inl ⟨?_, rfl⟩)
    split
    all_goals
      intro q
      have q1 := zt_M_jump q
      simp only [zt_S_top, zt_A_read, zt_S_sp] at q1
      exact q1.1.2 h1
  rw [if_neg h1]
  by_cases h2 : zx_isWord (zxg_sp u - 2) = 0
  · rw [if_pos h2]
    refine Or.inr (Or.inl ⟨?_, rfl⟩)
    split
    all_goals
      intro q
      have q1 := zt_M_jump q
      simp only [zt_S_top, zt_A_read, zt_S_sp] at q1
      exact q1.2 h2
  rw [if_neg h2, zv_rd R h1]
  have A1 := (zt_A_read v (zxg_sp u - 1)).mpr ⟨A, h1⟩
  by_cases c : zxg_top u = zxg_words u (zxg_sp u - 1).toNatClampNeg
  · rw [if_pos c, if_pos c]
    exact zo_branch1 (R.read _) Y A1 (zn_read N _) B h2 10 13 10 (by decide)
  · rw [if_neg c, if_neg c]
    exact zo_branch0 (R.read _) A1 (zn_read N _) h2 10 13
end ZV4

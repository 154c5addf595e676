section ZV4
variable {u : Zxs} {v : Zts}
theorem zt_M_jump {b y n : Int32} (h : ztg_amiss (zt_jump v b y n).2 = 0) : ztg_amiss v = 0 := by
  by_cases c : b = 0
  · rw [c, zt_jump0] at h
    simp only [zt_S_next] at h
    exact h
  · rw [zt_jumpN v c] at h
    simp only [zt_S_next] at h
    exact ((zt_A_pair v _).mp h).1
/-- IF BELOW, IF 0: what the class does with the answer of its question, b -/
theorem zo_jt (R : Zrel u v) (Y : Zbyt u) (A : ztg_amiss v = 0) (N : ztg_unknown v = 0) (B : zinB (zxg_pc u)) {b : Int32} (hb : b = 0 ∨ b = 1) : ZFin u (zx_jumpOnTop u b) (zt_jump (zts_top (zt_read (zts_sp v (ztg_sp v - 1)) (ztg_sp v - 1)).2 (zt_read (zts_sp v (ztg_sp v - 1)) (ztg_sp v - 1)).1) b 11 8) := by
  rw [R.2.2.2.1]
  unfold zx_jumpOnTop
  by_cases h : zx_isWord (zxg_sp u - 1) = 0
  · rw [if_pos h]
    refine Or.inr (Or.inl ⟨fun q => ?_, rfl⟩)
    have q1 := zt_M_jump q
    simp only [zt_S_top, zt_A_read] at q1
    exact q1.2 h
  rw [if_neg h]
  rcases hb with rfl | rfl
  · exact zo_branch0 R A N h 8 11
  · exact zo_branch1 R Y A N B h 8 11 8 (by decide)
end ZV4

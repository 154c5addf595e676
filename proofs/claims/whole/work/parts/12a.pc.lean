
theorem zaB2' {p : Int32} (h : ¬ zx_areBytes p 2 = 0) : zinB p ∧ zinB (p + 1) := Classical.not_not.mp (fun g => h ((zaB2 p).mpr g))
theorem zaB3' {p : Int32} (h : ¬ zx_areBytes p 3 = 0) : zinB p ∧ zinB (p + 1) ∧ zinB (p + 2) := by
  have g := Classical.not_not.mp (fun g => h ((zaB3 p).mpr g))
  exact ⟨g.1, zmid (n := 2) (j := 1) (by decide) (by decide) g.1 g.2, g.2⟩
theorem zaB4' {p : Int32} (h : ¬ zx_areBytes p 4 = 0) : zinB p ∧ zinB (p + 1) ∧ zinB (p + 2) ∧ zinB (p + 3) := by
  have g := Classical.not_not.mp (fun g => h ((zaB4 p).mpr g))
  exact ⟨g.1, zmid (n := 3) (j := 1) (by decide) (by decide) g.1 g.2, zmid (n := 3) (j := 2) (by decide) (by decide) g.1 g.2, g.2⟩
section ZV2
variable {u : Zxs} {v : Zts}
theorem zv_ub (R : Zrel u v) {a : Int32} (h : zinB a) : (zt_byteAt v a).1 = zx_unsignedByte u a := by
  rw [zt_V_byteAt, if_pos h, R.2.1]; rfl
theorem zv_up (R : Zrel u v) {a : Int32} (h1 : zinB a) (h2 : zinB (a + 1)) : (zt_pair v a).1 = zx_unsignedPair u a := by
  rw [zt_V_pair h1 h2, R.2.1]; exact z_pair _ _
theorem zv_rd (R : Zrel u v) {a : Int32} (h : ¬ zx_isWord a = 0) : (zt_read v a).1 = zxg_words u a.toNatClampNeg := by
  rw [zt_V_read, if_neg h, R.1]
theorem zt_A_push (v : Zts) (a b c : Int32) : (ztg_amiss (zt_push v a b c).2 = 0) ↔ (ztg_amiss v = 0 ∧ ¬ zx_isWord (ztg_sp v + 1) = 0) := by
  unfold zt_push
  simp only [zt_S_next, zt_A_write, zt_S_top, zt_S_sp]
theorem zt_A_store (v : Zts) (a b c : Int32) : (ztg_amiss (zt_store v a b c).2 = 0) ↔ ((ztg_amiss v = 0 ∧ ¬ zx_isWord a = 0) ∧ ¬ zx_isWord (ztg_sp v - 1) = 0) := by
  unfold zt_store
  simp only [zt_S_next, zt_A_write, zt_S_top, zt_S_sp, zt_A_read, zt_P_write]
theorem zn_read (N : ztg_unknown v = 0) (a : Int32) : ztg_unknown (zt_read v a).2 = 0 := by simp only [zt_P_read]; exact N
theorem zn_byteAt (N : ztg_unknown v = 0) (a : Int32) : ztg_unknown (zt_byteAt v a).2 = 0 := by simp only [zt_P_byteAt]; exact N
theorem zn_pair (N : ztg_unknown v = 0) (a : Int32) : ztg_unknown (zt_pair v a).2 = 0 := by simp only [zt_P_pair]; exact N
theorem zo_load (R : Zrel u v) (A : ztg_amiss v = 0) (N : ztg_unknown v = 0) (a b c : Int32) : ZFin u (zx_load u a b c) (zt_push (zt_read v a).2 (zt_read v a).1 b c) := by
  unfold zx_load
  by_cases h : zx_isWord a = 0
  · rw [if_pos h]
    refine Or.inr (Or.inl ⟨?_, rfl⟩)
    rw [zt_A_push, zt_A_read]
    exact fun q => q.1.2 h
  · rw [if_neg h, zv_rd R h]
    exact zo_push (R.read a) ((zt_A_read v a).mpr ⟨A, h⟩) (zn_read N a) _ b c
end ZV2

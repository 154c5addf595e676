section ZV2
variable {u : Zxs} {v : Zts}
/-- IF's end: down to the word nsp, which is there; then the jump or not -/
theorem zo_branch0 (R : Zrel u v) (A : ztg_amiss v = 0) (N : ztg_unknown v = 0) {nsp : Int32} (h : ¬ zx_isWord nsp = 0) (c y : Int32) : ZFin u (zx_branch u 0 nsp c) (zt_jump (zts_top (zt_read (zts_sp v nsp) nsp).2 (zt_read (zts_sp v nsp) nsp).1) 0 y c) := by
  rw [zt_jump0]
  unfold zx_branch
  rw [if_pos rfl, if_pos rfl]
  obtain ⟨Rw, Rb, Rp, Rs, Rl, Rc, Rt, Rst, Rcy, Rd⟩ := R
  refine Or.inl ⟨?_, ?_, ?_, rfl, ?_, ?_, ?_, rfl, ?_, rfl, rfl, rfl⟩
  · simp only [zt_S_next, zt_S_top]
    exact (zt_A_read _ _).mpr ⟨A, h⟩
  all_goals simp only [zt_S_next, zt_S_top, zt_S_sp, zt_P_read, zt_V_read, Rw, Rp, Rl, N, h, ↓reduceIte]
  all_goals first | done | rfl
theorem zo_branch1 (R : Zrel u v) (Y : Zbyt u) (A : ztg_amiss v = 0) (N : ztg_unknown v = 0) (B : zinB (zxg_pc u)) {nsp : Int32} (h : ¬ zx_isWord nsp = 0) (c y n : Int32) (hy : y = c + 3) : ZFin u (zx_branch u 1 nsp c) (zt_jump (zts_top (zt_read (zts_sp v nsp) nsp).2 (zt_read (zts_sp v nsp) nsp).1) 1 y n) := by
  subst hy
  have h10 : ¬ ((1 : Int32) = 0) := by decide
  have Am : ztg_amiss (zts_top (zt_read (zts_sp v nsp) nsp).2 (zt_read (zts_sp v nsp) nsp).1) = 0 := by
    simp only [zt_S_top]; exact (zt_A_read (zts_sp v nsp) nsp).mpr ⟨A, h⟩
  have Nm : ztg_unknown (zts_top (zt_read (zts_sp v nsp) nsp).2 (zt_read (zts_sp v nsp) nsp).1) = 0 := by
    simp only [zt_S_top]; exact zn_read (v := zts_sp v nsp) N nsp
  have Rm : Zrel (zxs_top (zxs_sp u nsp) (zxg_words u nsp.toNatClampNeg)) (zts_top (zt_read (zts_sp v nsp) nsp).2 (zt_read (zts_sp v nsp) nsp).1) := by
    obtain ⟨Rw, Rb, Rp, Rs, Rl, Rc, Rt, Rst, Rcy, Rd⟩ := R
    refine ⟨?_, ?_, ?_, ?_, ?_, ?_, ?_, ?_, ?_, ?_⟩
    all_goals simp only [zt_S_top, zt_S_sp, zt_P_read, zt_V_read, Rw, Rb, Rp, Rl, Rc, Rst, Rcy, Rd, h, ↓reduceIte]
    all_goals first | done | rfl
  have J := zo_jump Rm Y Am Nm B (c + 3) n
  generalize zts_top (zt_read (zts_sp v nsp) nsp).2 (zt_read (zts_sp v nsp) nsp).1 = vm at Am Nm Rm J ⊢
  have hA : (ztg_amiss (zt_jump vm 1 (c + 3) n).2 = 0) ↔ (ztg_amiss vm = 0 ∧ zinB (zxg_pc u + 1) ∧ zinB (zxg_pc u + 2)) := by
    rw [zt_jump1]
    simp only [zt_S_next, zt_A_pair, zadd11]
    rw [Rm.2.2.1]
    exact Iff.rfl
  have hU : ztg_unknown (zt_jump vm 1 (c + 3) n).2 = 0 := by
    rw [zt_jump1]
    simp only [zt_S_next]
    exact zn_pair Nm _
  unfold zx_branch
  rw [if_neg h10]
  by_cases h3 : zx_areBytes (zxg_pc u) 3 = 0
  · rw [if_pos h3]
    exact Or.inr (Or.inl ⟨fun q => (zaB3 _).mp h3 ⟨B, (hA.mp q).2.2⟩, rfl⟩)
  · rw [if_neg h3]
    have hb := zaB3' h3
    have am : ztg_amiss (zt_jump vm 1 (c + 3) n).2 = 0 := hA.mpr ⟨Am, hb.2.1, hb.2.2⟩
    rw [if_neg h10]
    rcases J with J | ⟨a1, a2⟩ | ⟨a1, a2, a3⟩
    · exact Or.inl J
    · exact absurd am a1
    · exact absurd hU a2
end ZV2

section ZV2
variable {u : Zxs} {v : Zts}
theorem zo_increase (R : Zrel u v) (Y : Zbyt u) (A : ztg_amiss v = 0) (N : ztg_unknown v = 0) (B : zinB (zxg_pc u)) : ZFin u (zx_increase u) (zt_increase v) := by
  have hA : (ztg_amiss (zt_increase v).2 = 0) ↔ (((ztg_amiss v = 0 ∧ zinB (zxg_pc u + 1)) ∧ zinB (zxg_pc u + 2)) ∧ ¬ zx_isWord (zxg_lv u + (zt_byteAt v (zxg_pc u + 1)).1) = 0) := by
    unfold zt_increase
    simp only [zt_S_next, zt_A_write, zt_A_read, zt_A_byteAt, zt_P_byteAt, R.2.2.1, R.2.2.2.2.1]
    exact ⟨fun q => q.1, fun q => ⟨q, q.2⟩⟩
  unfold zx_increase
  by_cases h : zx_areBytes (zxg_pc u) 3 = 0
  · rw [if_pos h]
    refine Or.inr (Or.inl ⟨?_, rfl⟩)
    rw [hA]
    exact fun q => (zaB3 _).mp h ⟨B, q.1.2⟩
  rw [if_neg h]
  have hb := zaB3' h
  rw [zv_ub R hb.2.1] at hA
  by_cases hw : zx_isWord (zxg_lv u + zx_unsignedByte u (zxg_pc u + 1)) = 0
  · rw [if_pos hw]
    refine Or.inr (Or.inl ⟨?_, rfl⟩)
    rw [hA]
    exact fun q => q.2 hw
  rw [if_neg hw]
  have e1 : (zt_byteAt v (zxg_pc u + 1)).1 = zx_unsignedByte u (zxg_pc u + 1) := zv_ub R hb.2.1
  have e2 : zt_signed (zt_byteAt (zt_byteAt v (zxg_pc u + 1)).2 (zxg_pc u + 2)).1 8 = zxg_bytes u (zxg_pc u + 2).toNatClampNeg := by
    rw [zv_ub (R.byteAt _) hb.2.2]; exact z_s8 (Y _)
  refine Or.inl ⟨hA.mpr ⟨⟨⟨A, hb.2.1⟩, hb.2.2⟩, hw⟩, ?_, ?_, rfl, ?_, ?_, ?_, rfl, ?_, rfl, rfl, rfl⟩
  all_goals unfold zt_increase
  all_goals simp only [zt_S_next, zt_P_write, zt_P_read, zt_P_byteAt, zt_W_write, zt_V_read, R.2.2.1, R.2.2.2.1, R.2.2.2.2.1, R.2.2.2.2.2.2.1, R.1, N, e1, e2, hw, ↓reduceIte]
  all_goals first | done | rfl


end ZV2

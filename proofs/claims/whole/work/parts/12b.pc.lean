section ZV2
variable {u : Zxs} {v : Zts}
theorem zo_loadNarrow (R : Zrel u v) (A : ztg_amiss v = 0) (N : ztg_unknown v = 0) (B : zinB (zxg_pc u)) : ZFin u (zx_loadNarrow u) (zt_push (zt_read (zt_byteAt v (ztg_pc v + 1)).2 (ztg_lv v + (zt_byteAt v (ztg_pc v + 1)).1)).2 (zt_read (zt_byteAt v (ztg_pc v + 1)).2 (ztg_lv v + (zt_byteAt v (ztg_pc v + 1)).1)).1 2 6) := by
  unfold zx_loadNarrow
  rw [R.2.2.1, R.2.2.2.2.1]
  by_cases h : zx_areBytes (zxg_pc u) 2 = 0
  · rw [if_pos h]
    refine Or.inr (Or.inl ⟨?_, rfl⟩)
    rw [zt_A_push, zt_A_read, zt_A_byteAt]
    exact fun q => (zaB2 _).mp h ⟨B, q.1.1.2⟩
  · rw [if_neg h]
    have hb := zaB2' h
    rw [zv_ub R hb.2]
    exact zo_load (R.byteAt _) ((zt_A_byteAt v _).mpr ⟨A, hb.2⟩) (zn_byteAt N _) _ 2 6
theorem zo_storeNarrow (R : Zrel u v) (A : ztg_amiss v = 0) (N : ztg_unknown v = 0) (B : zinB (zxg_pc u)) : ZFin u (zx_storeNarrow u) (zt_store (zt_byteAt v (ztg_pc v + 1)).2 (ztg_lv v + (zt_byteAt v (ztg_pc v + 1)).1) 2 7) := by
  unfold zx_storeNarrow
  rw [R.2.2.1, R.2.2.2.2.1]
  by_cases h : zx_areBytes (zxg_pc u) 2 = 0
  · rw [if_pos h]
    refine Or.inr (Or.inl ⟨?_, rfl⟩)
    rw [zt_A_store, zt_A_byteAt]
    exact fun q => (zaB2 _).mp h ⟨B, q.1.1.2⟩
  · rw [if_neg h]
    have hb := zaB2' h
    rw [zv_ub R hb.2]
    exact zo_store (R.byteAt _) ((zt_A_byteAt v _).mpr ⟨A, hb.2⟩) (zn_byteAt N _) _ 2 7
theorem zo_loadConstant (R : Zrel u v) (A : ztg_amiss v = 0) (N : ztg_unknown v = 0) (B : zinB (zxg_pc u)) : ZFin u (zx_loadConstant u) (zt_push (zt_read (zt_pair v (ztg_pc v + 1)).2 (ztg_cpp v + (zt_pair v (ztg_pc v + 1)).1)).2 (zt_read (zt_pair v (ztg_pc v + 1)).2 (ztg_cpp v + (zt_pair v (ztg_pc v + 1)).1)).1 3 8) := by
  unfold zx_loadConstant
  rw [R.2.2.1, R.2.2.2.2.2.1]
  by_cases h : zx_areBytes (zxg_pc u) 3 = 0
  · rw [if_pos h]
    refine Or.inr (Or.inl ⟨?_, rfl⟩)
    rw [zt_A_push, zt_A_read, zt_A_pair, zadd11]
    exact fun q => (zaB3 _).mp h ⟨B, q.1.1.2.2⟩
  · rw [if_neg h]
    have hb := zaB3' h
    have h2 : zinB (zxg_pc u + 1 + 1) := by rw [zadd11]; exact hb.2.2
    rw [zv_up R hb.2.1 h2]
    exact zo_load (R.pair _) ((zt_A_pair v _).mpr ⟨A, hb.2.1, h2⟩) (zn_pair N _) _ 3 8
theorem zo_pushByte (R : Zrel u v) (Y : Zbyt u) (A : ztg_amiss v = 0) (N : ztg_unknown v = 0) (B : zinB (zxg_pc u)) : ZFin u (zx_pushByte u) (zt_push (zt_byteAt v (ztg_pc v + 1)).2 (zt_signed (zt_byteAt v (ztg_pc v + 1)).1 8) 2 4) := by
  unfold zx_pushByte
  rw [R.2.2.1]
  by_cases h : zx_areBytes (zxg_pc u) 2 = 0
  · rw [if_pos h]
    refine Or.inr (Or.inl ⟨?_, rfl⟩)
    rw [zt_A_push, zt_A_byteAt]
    exact fun q => (zaB2 _).mp h ⟨B, q.1.2⟩
  · rw [if_neg h]
    have hb := zaB2' h
    rw [zv_ub R hb.2, show zt_signed (zx_unsignedByte u (zxg_pc u + 1)) 8 = zxg_bytes u (zxg_pc u + 1).toNatClampNeg from z_s8 (Y _)]
    exact zo_push (R.byteAt _) ((zt_A_byteAt v _).mpr ⟨A, hb.2⟩) (zn_byteAt N _) _ 2 4
end ZV2

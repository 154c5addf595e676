
theorem zaB2' {p : Int32} (h : ¬ zx_areBytes p 2 = 0) : zinB p ∧ zinB (p + 1) := Classical.not_not.mp (fun g => h ((zaB2 p).mpr g))
theorem zaB3' {p : Int32} (h : ¬ zx_areBytes p 3 = 0) : zinB p ∧ zinB (p + 1) ∧ zinB (p + 2) := by
  have g := Classical.not_not.mp (fun g => h ((zaB3 p).mpr g))
  exact ⟨g.1, zmid (n := 2) (j := 1) (by decide) (by decide) g.1 g.2, g.2⟩
theorem zaB4' {p : Int32} (h : ¬ zx_areBytes p 4 = 0) : zinB p ∧ zinB (p + 1) ∧ zinB (p + 2) ∧ zinB (p + 3) := by
  have g := Classical.not_not.mp (fun g => h ((zaB4 p).mpr g))
  exact ⟨g.1, zmid (n := 3) (j := 1) (by decide) (by decide) g.1 g.2, zmid (n := 3) (j := 2) (by decide) (by decide) g.1 g.2, g.2⟩
section ZV2
variable {u : Zxs} {v : Zts}
theorem zv_ub (R : Zrel u v) {a : Int32} (h : zinB a) : (zt_byteAt v a).1 = zx_unsignedByte u a := by
  rw [zt_V_byteAt, if_pos h, R.2.1]; rfl
theorem zv_up (R : Zrel u v) {a : Int32} (h1 : zinB a) (h2 : zinB (a + 1)) : (zt_pair v a).1 = zx_unsignedPair u a := by
  rw [zt_V_pair h1 h2, R.2.1]; exact z_pair _ _
theorem zv_rd (R : Zrel u v) {a : Int32} (h : ¬ zx_isWord a = 0) : (zt_read v a).1 = zxg_words u a.toNatClampNeg := by
  rw [zt_V_read, if_neg h, R.1]
theorem zt_A_push (v : Zts) (a b c : Int32) : (ztg_amiss (zt_push v a b c).2 = 0) ↔ (ztg_amiss v = 0 ∧ ¬ zx_isWord (ztg_sp v + 1) = 0) := by
  unfold zt_push
  simp only [zt_S_next, zt_A_write, zt_S_top, zt_S_sp]
theorem zt_A_store (v : Zts) (a b c : Int32) : (ztg_amiss (zt_store v a b c).2 = 0) ↔ ((ztg_amiss v = 0 ∧ ¬ zx_isWord a = 0) ∧ ¬ zx_isWord (ztg_sp v - 1) = 0) := by
  unfold zt_store
  simp only [zt_S_next, zt_A_write, zt_S_top, zt_S_sp, zt_A_read, zt_P_write]
theorem zn_read (N : ztg_unknown v = 0) (a : Int32) : ztg_unknown (zt_read v a).2 = 0 := by simp only [zt_P_read]; exact N
theorem zn_byteAt (N : ztg_unknown v = 0) (a : Int32) : ztg_unknown (zt_byteAt v a).2 = 0 := by simp only [zt_P_byteAt]; exact N
theorem zn_pair (N : ztg_unknown v = 0) (a : Int32) : ztg_unknown (zt_pair v a).2 = 0 := by simp only [zt_P_pair]; exact N
theorem zo_load (R : Zrel u v) (A : ztg_amiss v = 0) (N : ztg_unknown v = 0) (a b c : Int32) : ZFin u (zx_load u a b c) (zt_push (zt_read v a).2 (zt_read v a).1 b c) := by
  unfold zx_load
  by_cases h : zx_isWord a = 0
  · rw [if_pos h]
    refine Or.inr (Or.inl ⟨?_, rfl⟩)
    rw [zt_A_push, zt_A_read]
    exact fun q => q.1.2 h
  · rw [if_neg h, zv_rd R h]
    exact zo_push (R.read a) ((zt_A_read v a).mpr ⟨A, h⟩) (zn_read N a) _ b c
theorem zo_loadNarrow (R : Zrel u v) (A : ztg_amiss v = 0) (N : ztg_unknown v = 0) (B : zinB (zxg_pc u)) : ZFin u (zx_loadNarrow u) (zt_push (zt_read (zt_byteAt v (ztg_pc v + 1)).2 (ztg_lv v + (zt_byteAt v (ztg_pc v + 1)).1)).2 (zt_read (zt_byteAt v (ztg_pc v + 1)).2 (ztg_lv v + (zt_byteAt v (ztg_pc v + 1)).1)).1 2 6) := by
  unfold zx_loadNarrow
  rw [R.2.2.1, R.2.2.2.2.1]
  by_cases h : zx_areBytes (zxg_pc u) 2 = 0
  · rw [if_pos h]
    refine Or.inr (Or.inl ⟨?_, rfl⟩)
    rw [zt_A_push, zt_A_read, zt_A_byteAt]
    exact fun q => (zaB2 _).mp h ⟨B, q.1.1.2⟩
  · rw [if_neg h]
    have hb := zaB2' h
    rw [zv_ub R hb.2]
    exact zo_load (R.byteAt _) ((zt_A_byteAt v _).mpr ⟨A, hb.2⟩) (zn_byteAt N _) _ 2 6
theorem zo_storeNarrow (R : Zrel u v) (A : ztg_amiss v = 0) (N : ztg_unknown v = 0) (B : zinB (zxg_pc u)) : ZFin u (zx_storeNarrow u) (zt_store (zt_byteAt v (ztg_pc v + 1)).2 (ztg_lv v + (zt_byteAt v (ztg_pc v + 1)).1) 2 7) := by
  unfold zx_storeNarrow
  rw [R.2.2.1, R.2.2.2.2.1]
  by_cases h : zx_areBytes (zxg_pc u) 2 = 0
  · rw [if_pos h]
    refine Or.inr (Or.inl ⟨?_, rfl⟩)
    rw [zt_A_store, zt_A_byteAt]
    exact fun q => (zaB2 _).mp h ⟨B, q.1.1.2⟩
  · rw [if_neg h]
    have hb := zaB2' h
    rw [zv_ub R hb.2]
    exact zo_store (R.byteAt _) ((zt_A_byteAt v _).mpr ⟨A, hb.2⟩) (zn_byteAt N _) _ 2 7
theorem zo_loadConstant (R : Zrel u v) (A : ztg_amiss v = 0) (N : ztg_unknown v = 0) (B : zinB (zxg_pc u)) : ZFin u (zx_loadConstant u) (zt_push (zt_read (zt_pair v (ztg_pc v + 1)).2 (ztg_cpp v + (zt_pair v (ztg_pc v + 1)).1)).2 (zt_read (zt_pair v (ztg_pc v + 1)).2 (ztg_cpp v + (zt_pair v (ztg_pc v + 1)).1)).1 3 8) := by
  unfold zx_loadConstant
  rw [R.2.2.1, R.2.2.2.2.2.1]
  by_cases h : zx_areBytes (zxg_pc u) 3 = 0
  · rw [if_pos h]
    refine Or.inr (Or.inl ⟨?_, rfl⟩)
    rw [zt_A_push, zt_A_read, zt_A_pair, zadd11]
    exact fun q => (zaB3 _).mp h ⟨B, q.1.1.2.2⟩
  · rw [if_neg h]
    have hb := zaB3' h
    have h2 : zinB (zxg_pc u + 1 + 1) := by rw [zadd11]; exact hb.2.2
    rw [zv_up R hb.2.1 h2]
    exact zo_load (R.pair _) ((zt_A_pair v _).mpr ⟨A, hb.2.1, h2⟩) (zn_pair N _) _ 3 8
theorem zo_pushByte (R : Zrel u v) (Y : Zbyt u) (A : ztg_amiss v = 0) (N : ztg_unknown v = 0) (B : zinB (zxg_pc u)) : ZFin u (zx_pushByte u) (zt_push (zt_byteAt v (ztg_pc v + 1)).2 (zt_signed (zt_byteAt v (ztg_pc v + 1)).1 8) 2 4) := by
  unfold zx_pushByte
  rw [R.2.2.1]
  by_cases h : zx_areBytes (zxg_pc u) 2 = 0
  · rw [if_pos h]
    refine Or.inr (Or.inl ⟨?_, rfl⟩)
    rw [zt_A_push, zt_A_byteAt]
    exact fun q => (zaB2 _).mp h ⟨B, q.1.2⟩
  · rw [if_neg h]
    have hb := zaB2' h
    rw [zv_ub R hb.2, show zt_signed (zx_unsignedByte u (zxg_pc u + 1)) 8 = zxg_bytes u (zxg_pc u + 1).toNatClampNeg from z_s8 (Y _)]
    exact zo_push (R.byteAt _) ((zt_A_byteAt v _).mpr ⟨A, hb.2⟩) (zn_byteAt N _) _ 2 4
theorem zo_wide (R : Zrel u v) (A : ztg_amiss v = 0) (N : ztg_unknown v = 0) (B : zinB (zxg_pc u)) : ZFin u (zx_wide u) (zt_wide v) := by
  unfold zx_wide zt_wide
  dsimp only
  rw [R.2.2.1]
  have Ab := zt_A_byteAt v (zxg_pc u + 1)
  by_cases h : zx_areBytes (zxg_pc u) 2 = 0
  · have hm : ¬ ztg_amiss (zt_byteAt v (zxg_pc u + 1)).2 = 0 := fun q => (zaB2 _).mp h ⟨B, (Ab.mp q).2⟩
    have hm2 : ¬ ztg_amiss (zts_unknown (zt_byteAt v (zxg_pc u + 1)).2 0) = 0 := hm
    rw [if_pos h, if_neg hm, if_neg hm2]
    exact Or.inr (Or.inl ⟨hm2, rfl⟩)
  have hb := zaB2' h
  have hm := Ab.mpr ⟨A, hb.2⟩
  have R1 : Zrel u (zts_unknown (zt_byteAt v (zxg_pc u + 1)).2 0) := (R.byteAt _).unknown 0
  generalize hv1 : zts_unknown (zt_byteAt v (zxg_pc u + 1)).2 0 = v1 at R1
  have A1 : ztg_amiss v1 = 0 := by rw [← hv1]; exact hm
  have N1 : ztg_unknown v1 = 0 := by rw [← hv1]; rfl
  rw [if_neg h, if_pos hm, zv_ub R hb.2]
  have key : ∀ (f : Int32 → Zxs) (g : Int32 → Zts → Int32 × Zts), (∀ (w : Zts) (a : Int32), ¬ ztg_amiss w = 0 → ¬ ztg_amiss (g a w).2 = 0) → (∀ (w : Zts) (a : Int32), Zrel u w → ztg_amiss w = 0 → ztg_unknown w = 0 → ZFin u (f a) (g a w)) →
      ZFin u (if zx_areBytes (zxg_pc u) 4 = 0 then zx_fault u else f (zxg_lv u + zx_unsignedPair u (zxg_pc u + 2))) (if ztg_amiss v1 = 0 then g (ztg_lv v1 + (zt_pair v1 (ztg_pc v1 + 2)).1) (zt_pair v1 (ztg_pc v1 + 2)).2 else (0, v1)) := by
    intro f g hbad hgood
    rw [if_pos A1, R1.2.2.1, R1.2.2.2.2.1]
    by_cases h4 : zx_areBytes (zxg_pc u) 4 = 0
    · rw [if_pos h4]
      refine Or.inr (Or.inl ⟨hbad _ _ ?_, rfl⟩)
      rw [zt_A_pair, zadd21]
      exact fun q => (zaB4 _).mp h4 ⟨B, q.2.2⟩
    · rw [if_neg h4]
      have h4' := zaB4' h4
      have g3 : zinB (zxg_pc u + 2 + 1) := by rw [zadd21]; exact h4'.2.2.2
      rw [zv_up R1 h4'.2.2.1 g3]
      exact hgood _ _ (R1.pair _) ((zt_A_pair v1 _).mpr ⟨A1, h4'.2.2.1, g3⟩) (zn_pair N1 _)
  by_cases h21 : zx_unsignedByte u (zxg_pc u + 1) = 21
  · simp only [h21, ↓reduceIte, hv1]
    exact key (fun a => zx_load u a 4 10) (fun a w => zt_push (zt_read w a).2 (zt_read w a).1 4 10) (fun w a hw => by rw [zt_A_push, zt_A_read]; exact fun q => hw q.1.1) (fun w a r1 r2 r3 => zo_load r1 r2 r3 a 4 10)
  by_cases h54 : zx_unsignedByte u (zxg_pc u + 1) = 54
  · simp only [h21, h54, ↓reduceIte, hv1, show ¬ ((54 : Int32) = 21) from by decide]
    exact key (fun a => zx_store u a 4 11) (fun a w => zt_store w a 4 11) (fun w a hw => by rw [zt_A_store]; exact fun q => hw q.1.1) (fun w a r1 r2 r3 => zo_store r1 r2 r3 a 4 11)
  · have hm3 : ztg_amiss (zts_unknown (zt_byteAt v (zxg_pc u + 1)).2 1) = 0 := hm
    rw [if_neg h21, if_neg h54, if_neg h21, if_neg h54, if_pos hm3]
    exact Or.inr (Or.inr ⟨hm3, (by decide : ¬ (1 : Int32) = 0), rfl⟩)
theorem zo_increase (R : Zrel u v) (Y : Zbyt u) (A : ztg_amiss v = 0) (N : ztg_unknown v = 0) (B : zinB (zxg_pc u)) : ZFin u (zx_increase u) (zt_increase v) := by
  have hA : (ztg_amiss (zt_increase v).2 = 0) ↔ (((ztg_amiss v = 0 ∧ zinB (zxg_pc u + 1)) ∧ zinB (zxg_pc u + 2)) ∧ ¬ zx_isWord (zxg_lv u + (zt_byteAt v (zxg_pc u + 1)).1) = 0) := by
    unfold zt_increase
    simp only [zt_S_next, zt_A_write, zt_A_read, zt_A_byteAt, zt_P_byteAt, R.2.2.1, R.2.2.2.2.1]
    exact ⟨fun q => q.1, fun q => ⟨q, q.2⟩⟩
  unfold zx_increase
  by_cases h : zx_areBytes (zxg_pc u) 3 = 0
  · rw [if_pos h]
    refine Or.inr (Or.inl ⟨?_, rfl⟩)
    rw [hA]
    exact fun q => (zaB3 _).mp h ⟨B, q.1.2⟩
  rw [if_neg h]
  have hb := zaB3' h
  rw [zv_ub R hb.2.1] at hA
  by_cases hw : zx_isWord (zxg_lv u + zx_unsignedByte u (zxg_pc u + 1)) = 0
  · rw [if_pos hw]
    refine Or.inr (Or.inl ⟨?_, rfl⟩)
    rw [hA]
    exact fun q => q.2 hw
  rw [if_neg hw]
  have e1 : (zt_byteAt v (zxg_pc u + 1)).1 = zx_unsignedByte u (zxg_pc u + 1) := zv_ub R hb.2.1
  have e2 : zt_signed (zt_byteAt (zt_byteAt v (zxg_pc u + 1)).2 (zxg_pc u + 2)).1 8 = zxg_bytes u (zxg_pc u + 2).toNatClampNeg := by
    rw [zv_ub (R.byteAt _) hb.2.2]; exact z_s8 (Y _)
  refine Or.inl ⟨hA.mpr ⟨⟨⟨A, hb.2.1⟩, hb.2.2⟩, hw⟩, ?_, ?_, rfl, ?_, ?_, ?_, rfl, ?_, rfl, rfl, rfl⟩
  all_goals unfold zt_increase
  all_goals simp only [zt_S_next, zt_P_write, zt_P_read, zt_P_byteAt, zt_W_write, zt_V_read, R.2.2.1, R.2.2.2.1, R.2.2.2.2.1, R.2.2.2.2.2.2.1, R.1, N, e1, e2, hw, ↓reduceIte]
  all_goals first | done | rfl


/-- a jump's target by both -/
theorem zv_sp (R : Zrel u v) (Y : Zbyt u) {a : Int32} (h1 : zinB a) (h2 : zinB (a + 1)) : zt_signed (zt_pair v a).1 16 = zx_signedPair u a := by
  rw [zt_V_pair h1 h2, R.2.1]; exact z_s16 _ (Y _)
theorem zo_jump (R : Zrel u v) (Y : Zbyt u) (A : ztg_amiss v = 0) (N : ztg_unknown v = 0) (B : zinB (zxg_pc u)) (c n : Int32) : ZFin u (zx_jump u c) (zt_jump v 1 c n) := by
  unfold zx_jump zt_jump
  simp only [show ¬ ((1 : Int32) = 0) from by decide, ↓reduceIte, R.2.2.1]
  by_cases h : zx_areBytes (zxg_pc u) 3 = 0
  · rw [if_pos h]
    refine Or.inr (Or.inl ⟨?_, rfl⟩)
    show ¬ ztg_amiss (zt_pair v (zxg_pc u + 1)).2 = 0
    rw [zt_A_pair, zadd11]
    exact fun q => (zaB3 _).mp h ⟨B, q.2.2⟩
  rw [if_neg h]
  have hb := zaB3' h
  have h2 : zinB (zxg_pc u + 1 + 1) := by rw [zadd11]; exact hb.2.2
  rw [zv_sp R Y hb.2.1 h2]
  obtain ⟨Rw, Rb, Rp, Rs, Rl, Rc, Rt, Rst, Rcy, Rd⟩ := R
  refine Or.inl ⟨(zt_A_pair v _).mpr ⟨A, hb.2.1, h2⟩, ?_, ?_, rfl, rfl, ?_, ?_, rfl, ?_, rfl, rfl, rfl⟩
  all_goals simp only [zt_S_next, zt_P_pair, Rw, Rs, Rl, Rt, N]
  all_goals first | done | rfl
/-- IF's end: down to the word nsp, which is there; then the jump or not -/
theorem zo_branch0 (R : Zrel u v) (A : ztg_amiss v = 0) (N : ztg_unknown v = 0) {nsp : Int32} (h : ¬ zx_isWord nsp = 0) (c y : Int32) : ZFin u (zx_branch u 0 nsp c) (zt_jump (zts_top (zt_read (zts_sp v nsp) nsp).2 (zt_read (zts_sp v nsp) nsp).1) 0 y c) := by
  unfold zx_branch zt_jump
  simp only [↓reduceIte]
  obtain ⟨Rw, Rb, Rp, Rs, Rl, Rc, Rt, Rst, Rcy, Rd⟩ := R
  refine Or.inl ⟨?_, ?_, ?_, rfl, ?_, ?_, ?_, rfl, ?_, rfl, rfl, rfl⟩
  · show ztg_amiss (zt_read (zts_sp v nsp) nsp).2 = 0
    exact (zt_A_read _ _).mpr ⟨A, h⟩
  all_goals simp only [zt_S_next, zt_S_top, zt_S_sp, zt_P_read, zt_V_read, Rw, Rp, Rl, N, h, ↓reduceIte]
  all_goals first | done | rfl
theorem zo_branch1 (R : Zrel u v) (Y : Zbyt u) (A : ztg_amiss v = 0) (N : ztg_unknown v = 0) (B : zinB (zxg_pc u)) {nsp : Int32} (h : ¬ zx_isWord nsp = 0) (c n : Int32) : ZFin u (zx_branch u 1 nsp c) (zt_jump (zts_top (zt_read (zts_sp v nsp) nsp).2 (zt_read (zts_sp v nsp) nsp).1) 1 (c + 3) n) := by
  have Am : ztg_amiss (zts_top (zt_read (zts_sp v nsp) nsp).2 (zt_read (zts_sp v nsp) nsp).1) = 0 := (zt_A_read (zts_sp v nsp) nsp).mpr ⟨A, h⟩
  have Nm : ztg_unknown (zts_top (zt_read (zts_sp v nsp) nsp).2 (zt_read (zts_sp v nsp) nsp).1) = 0 := zn_read (v := zts_sp v nsp) N nsp
  have Rm : Zrel (zxs_top (zxs_sp u nsp) (zxg_words u nsp.toNatClampNeg)) (zts_top (zt_read (zts_sp v nsp) nsp).2 (zt_read (zts_sp v nsp) nsp).1) := by
    obtain ⟨Rw, Rb, Rp, Rs, Rl, Rc, Rt, Rst, Rcy, Rd⟩ := R
    refine ⟨?_, ?_, ?_, ?_, ?_, ?_, ?_, ?_, ?_, ?_⟩
    all_goals simp only [zt_S_top, zt_S_sp, zt_P_read, zt_V_read, Rw, Rb, Rp, Rl, Rc, Rst, Rcy, Rd, h, ↓reduceIte]
    all_goals first | done | rfl
  have J := zo_jump Rm Y Am Nm B (c + 3) n
  generalize zts_top (zt_read (zts_sp v nsp) nsp).2 (zt_read (zts_sp v nsp) nsp).1 = vm at Am Nm Rm J ⊢
  unfold zx_branch
  simp only [show ¬ ((1 : Int32) = 0) from by decide, ↓reduceIte]
  by_cases h3 : zx_areBytes (zxg_pc u) 3 = 0
  · rw [if_pos h3]
    rcases J with ⟨a1, -⟩ | ⟨a1, -⟩ | ⟨a1, a2, a3⟩
    · exfalso
      have q : ztg_amiss (zt_pair vm (ztg_pc vm + 1)).2 = 0 := by
        unfold zt_jump at a1
        simp only [show ¬ ((1 : Int32) = 0) from by decide, ↓reduceIte] at a1
        exact a1
      rw [zt_A_pair, Rm.2.2.1, zadd11] at q
      exact (zaB3 _).mp h3 ⟨B, q.2.2⟩
    · exact Or.inr (Or.inl ⟨a1, rfl⟩)
    · exfalso
      have q : ztg_amiss (zt_pair vm (ztg_pc vm + 1)).2 = 0 := by
        unfold zt_jump at a1
        simp only [show ¬ ((1 : Int32) = 0) from by decide, ↓reduceIte] at a1
        exact a1
      rw [zt_A_pair, Rm.2.2.1, zadd11] at q
      exact (zaB3 _).mp h3 ⟨B, q.2.2⟩
  · rw [if_neg h3]
    have h3' : ¬ zx_areBytes (zxg_pc (zxs_top (zxs_sp u nsp) (zxg_words u nsp.toNatClampNeg))) 3 = 0 := h3
    unfold zx_jump at J
    rw [if_neg h3'] at J
    show ZFin u (zx_jump (zxs_top (zxs_sp u nsp) (zxg_words u nsp.toNatClampNeg)) (c + 3)) _
    unfold zx_jump
    rw [if_neg h3']
    rcases J with J | ⟨a1, a2⟩ | ⟨a1, a2, a3⟩
    · exact Or.inl J
    · exfalso
      refine a1 ?_
      unfold zt_jump
      simp only [show ¬ ((1 : Int32) = 0) from by decide, ↓reduceIte]
      show ztg_amiss (zt_pair vm (ztg_pc vm + 1)).2 = 0
      have hb := zaB3' h3
      rw [zt_A_pair, Rm.2.2.1, zadd11]
      exact ⟨Am, hb.2.1, hb.2.2⟩
    · exfalso
      refine a2 ?_
      unfold zt_jump
      simp only [show ¬ ((1 : Int32) = 0) from by decide, ↓reduceIte]
      show ztg_unknown (zt_pair vm (ztg_pc vm + 1)).2 = 0
      exact zn_pair Nm _
end ZV2


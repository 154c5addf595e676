section ZV2
variable {u : Zxs} {v : Zts}
theorem zo_wide (R : Zrel u v) (A : ztg_amiss v = 0) (N : ztg_unknown v = 0) (B : zinB (zxg_pc u)) : ZFin u (zx_wide u) (zt_wide v) := by
  unfold zx_wide zt_wide
  dsimp only
  rw [R.2.2.1]
  have Ab := zt_A_byteAt v (zxg_pc u + 1)
  by_cases h : zx_areBytes (zxg_pc u) 2 = 0
  · have hm : ¬ ztg_amiss (zt_byteAt v (zxg_pc u + 1)).2 = 0 := fun q => (zaB2 _).mp h ⟨B, (Ab.mp q).2⟩
    have hm2 : ¬ ztg_amiss (zts_unknown (zt_byteAt v (zxg_pc u + 1)).2 0) = 0 := hm
    rw [if_pos h, if_neg hm, if_neg hm2]
    exact Or.inr (Or.inl ⟨hm2, rfl⟩)
  have hb := zaB2' h
  have hm := Ab.mpr ⟨A, hb.2⟩
  have R1 : Zrel u (zts_unknown (zt_byteAt v (zxg_pc u + 1)).2 0) := (R.byteAt _).unknown 0
  generalize hv1 : zts_unknown (zt_byteAt v (zxg_pc u + 1)).2 0 = v1 at R1
  have A1 : ztg_amiss v1 = 0 := by rw [← hv1]; exact hm
  have N1 : ztg_unknown v1 = 0 := by rw [← hv1]; rfl
  rw [if_neg h, if_pos hm, zv_ub R hb.2]
  have key : ∀ (f : Int32 → Zxs) (g : Int32 → Zts → Int32 × Zts), (∀ (w : Zts) (a : Int32), ¬ ztg_amiss w = 0 → ¬ ztg_amiss (g a w).2 = 0) → (∀ (w : Zts) (a : Int32), Zrel u w → ztg_amiss w = 0 → ztg_unknown w = 0 → ZFin u (f a) (g a w)) →
      ZFin u (if zx_areBytes (zxg_pc u) 4 = 0 then zx_fault u else f (zxg_lv u + zx_unsignedPair u (zxg_pc u + 2))) (if ztg_amiss v1 = 0 then g (ztg_lv v1 + (zt_pair v1 (ztg_pc v1 + 2)).1) (zt_pair v1 (ztg_pc v1 + 2)).2 else (0, v1)) := by
    intro f g hbad hgood
    rw [if_pos A1, R1.2.2.1, R1.2.2.2.2.1]
    by_cases h4 : zx_areBytes (zxg_pc u) 4 = 0
    · rw [if_pos h4]
      refine Or.inr (Or.inl ⟨hbad _ _ ?_, rfl⟩)
      rw [zt_A_pair, zadd21]
      exact fun q => (zaB4 _).mp h4 ⟨B, q.2.2⟩
    · rw [if_neg h4]
      have h4' := zaB4' h4
      have g3 : zinB (zxg_pc u + 2 + 1) := by rw [zadd21]; exact h4'.2.2.2
      rw [zv_up R1 h4'.2.2.1 g3]
      exact hgood _ _ (R1.pair _) ((zt_A_pair v1 _).mpr ⟨A1, h4'.2.2.1, g3⟩) (zn_pair N1 _)
  by_cases h21 : zx_unsignedByte u (zxg_pc u + 1) = 21
  · simp only [h21, ↓reduceIte, hv1]
    exact key (fun a => zx_load u a 4 10) (fun a w => zt_push (zt_read w a).2 (zt_read w a).1 4 10) (fun w a hw => by rw [zt_A_push, zt_A_read]; exact fun q => hw q.1.1) (fun w a r1 r2 r3 => zo_load r1 r2 r3 a 4 10)
  by_cases h54 : zx_unsignedByte u (zxg_pc u + 1) = 54
  · simp only [h21, h54, ↓reduceIte, hv1, show ¬ ((54 : Int32) = 21) from by decide]
    exact key (fun a => zx_store u a 4 11) (fun a w => zt_store w a 4 11) (fun w a hw => by rw [zt_A_store]; exact fun q => hw q.1.1) (fun w a r1 r2 r3 => zo_store r1 r2 r3 a 4 11)
  · have hm3 : ztg_amiss (zts_unknown (zt_byteAt v (zxg_pc u + 1)).2 1) = 0 := hm
    rw [if_neg h21, if_neg h54, if_neg h21, if_neg h54, if_pos hm3]
    exact Or.inr (Or.inr ⟨hm3, (by decide : ¬ (1 : Int32) = 0), rfl⟩)
end ZV2

section ZV4
variable {u : Zxs} {v : Zts}
theorem zo_ifs155 (R : Zrel u v) (Y : Zbyt u) (A : ztg_amiss v = 0) (N : ztg_unknown v = 0) (B : zinB (zxg_pc u)) : ZFin u (if 0 ≤ zxg_top u then zx_jumpOnTop u 0 else zx_jumpOnTop u 1) (zt_ifs v 155) := by
  unfold zt_ifs
  simp only [show ¬ ((155 : Int32) = 159) from by decide, ↓reduceIte, R.2.2.2.2.2.2.1, zt_S_sp]
  by_cases c : 0 ≤ zxg_top u
  · rw [if_pos c, if_pos c]
    exact zo_jt R Y A N B (Or.inl rfl)
  · rw [if_neg c, if_neg c]
    exact zo_jt R Y A N B (Or.inr rfl)
theorem zo_ifs153 (R : Zrel u v) (Y : Zbyt u) (A : ztg_amiss v = 0) (N : ztg_unknown v = 0) (B : zinB (zxg_pc u)) : ZFin u (if zxg_top u = 0 then zx_jumpOnTop u 1 else zx_jumpOnTop u 0) (zt_ifs v 153) := by
  unfold zt_ifs
  simp only [show ¬ ((153 : Int32) = 159) from by decide, show ¬ ((153 : Int32) = 155) from by decide, ↓reduceIte, R.2.2.2.2.2.2.1, zt_S_sp]
  by_cases c : zxg_top u = 0
  · rw [if_pos c, if_pos c]
    exact zo_jt R Y A N B (Or.inr rfl)
  · rw [if_neg c, if_neg c]
    exact zo_jt R Y A N B (Or.inl rfl)
end ZV4

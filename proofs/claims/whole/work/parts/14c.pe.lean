
set_option maxHeartbeats 4000000 in
set_option maxRecDepth 100000 in
/-- every opcode but HALT: the class's step and what the reference performs -/
theorem zperf {u : Zxs} {v : Zts} (R : Zrel u v) (Y : Zbyt u) (A : ztg_amiss v = 0) (N : ztg_unknown v = 0) (B : zinB (zxg_pc u)) (h255 : ¬ zx_unsignedByte u (zxg_pc u) = 255) : ZFin u (zx_step u) (zt_perform v (zx_unsignedByte u (zxg_pc u))) := by
  have hB : ¬ zx_areBytes (zxg_pc u) 1 = 0 := fun q => (zaB1 _).mp q B
  unfold zx_step
  rw [if_neg hB]
  generalize zx_unsignedByte u (zxg_pc u) = op at h255 ⊢
  unfold zt_perform
  dsimp only
  have R1 : Zrel u (zts_next v (ztg_pc v + 1)) := R.next _
  have A1 : ztg_amiss (zts_next v (ztg_pc v + 1)) = 0 := A
  have N1 : ztg_unknown (zts_next v (ztg_pc v + 1)) = 0 := N
  have NX : ztg_next (zts_next v (ztg_pc v + 1)) = zxg_pc u + 1 := by rw [← R.2.2.1]; rfl
  generalize zts_next v (ztg_pc v + 1) = v1 at R1 A1 N1 NX ⊢
  by_cases c0 : op = 0
  · rw [if_pos c0, if_pos c0]
    exact Or.inl ⟨A1, N1, R1.1.symm, rfl, NX.symm, R1.2.2.2.1.symm, R1.2.2.2.2.1.symm, rfl, R1.2.2.2.2.2.2.1.symm, rfl, rfl, rfl⟩
  rw [if_neg c0, if_neg c0]
  by_cases c16 : op = 16
  · rw [if_pos c16, if_pos c16]
    exact zo_pushByte R1 Y A1 N1 B
  rw [if_neg c16, if_neg c16]
  by_cases c19 : op = 19
  · rw [if_pos c19, if_pos c19]
    exact zo_loadConstant R1 A1 N1 B
  rw [if_neg c19, if_neg c19]
  by_cases c21 : op = 21
  · rw [if_pos c21, if_pos c21]
    exact zo_loadNarrow R1 A1 N1 B
  rw [if_neg c21, if_neg c21]
  by_cases c54 : op = 54
  · rw [if_pos c54, if_pos c54]
    exact zo_storeNarrow R1 A1 N1 B
  rw [if_neg c54, if_neg c54]
  by_cases c87 : op = 87
  · rw [if_pos c87, if_pos c87]
    exact zo_pop R1 A1 N1 NX
  rw [if_neg c87, if_neg c87]
  by_cases c89 : op = 89
  · rw [if_pos c89, if_pos c89]
    rw [R1.2.2.2.2.2.2.1]; exact zo_push R1 A1 N1 _ 1 3
  rw [if_neg c89, if_neg c89]
  by_cases c95 : op = 95
  · rw [if_pos c95, if_pos c95]
    exact zo_swap R1 A1 N1 NX
  rw [if_neg c95, if_neg c95]
  by_cases c96 : op = 96
  · rw [if_pos c96, if_pos c96]
    exact zo_combine R1 A1 N1 NX op
  rw [if_neg c96, if_neg c96]
  by_cases c100 : op = 100
  · rw [if_pos c100, if_pos c100]
    exact zo_combine R1 A1 N1 NX op
  rw [if_neg c100, if_neg c100]
  by_cases c126 : op = 126
  · rw [if_pos c126, if_pos c126]
    exact zo_combine R1 A1 N1 NX op
  rw [if_neg c126, if_neg c126]
  by_cases c128 : op = 128
  · rw [if_pos c128, if_pos c128]
    exact zo_combine R1 A1 N1 NX op
  rw [if_neg c128, if_neg c128]
  by_cases c132 : op = 132
  · rw [if_pos c132, if_pos c132]
    exact zo_increase R1 Y A1 N1 B
  rw [if_neg c132, if_neg c132]
  by_cases c153 : op = 153
  · rw [if_pos c153, if_pos c153]
    rw [c153]; exact zo_ifs153 R1 Y A1 N1 B
  rw [if_neg c153, if_neg c153]
  by_cases c155 : op = 155
  · rw [if_pos c155, if_pos c155]
    rw [c155]; exact zo_ifs155 R1 Y A1 N1 B
  rw [if_neg c155, if_neg c155]
  by_cases c159 : op = 159
  · rw [if_pos c159, if_pos c159]
    rw [c159]; exact zo_like R1 Y A1 N1 B
  rw [if_neg c159, if_neg c159]
  by_cases c167 : op = 167
  · rw [if_pos c167, if_pos c167]
    exact zo_jump R1 Y A1 N1 B 7 7
  rw [if_neg c167, if_neg c167]
  by_cases c172 : op = 172
  · rw [if_pos c172, if_pos c172]
    exact zo_leave R1 A1 N1
  rw [if_neg c172, if_neg c172]
  by_cases c182 : op = 182
  · rw [if_pos c182, if_pos c182]
    exact zo_enter R1 A1 N1 B
  rw [if_neg c182, if_neg c182]
  by_cases c196 : op = 196
  · rw [if_pos c196, if_pos c196]
    exact zo_wide R1 A1 N1 B
  rw [if_neg c196, if_neg c196]
  rw [if_neg h255, if_neg h255]
  exact Or.inr (Or.inr ⟨A1, (by decide : ¬ (1 : Int32) = 0), rfl⟩)
/-- what is left when a machine has stopped amiss or unknown: all as it was, but the state -/
theorem z_undo {u : Zxs} {v w : Zts} {n : Nat} (R : Zrel u v) (hn : n ≤ 8) (G : ZtG (ztg_words v) n w) (F : ztg_bytes w = ztg_bytes v ∧ ztg_pc w = ztg_pc v ∧ ztg_cpp w = ztg_cpp v ∧ ztg_cycles w = ztg_cycles v ∧ ztg_done w = ztg_done v) (c : Int32) :
    Zrel (zxs_state u c) (zts_state (zts_top (zts_lv (zts_sp (zt_undone w) (ztg_sp v)) (ztg_lv v)) (ztg_top v)) c) := by
  obtain ⟨Rw, Rb, Rp, Rs, Rl, Rc, Rt, Rst, Rcy, Rd⟩ := R
  obtain ⟨f1, f2, f3, f4, f5⟩ := F
  obtain ⟨j, g1, g2, -, g4⟩ := G
  refine ⟨?_, ?_, ?_, ?_, ?_, ?_, ?_, ?_, ?_, ?_⟩
  · show zundo (ztg_places w) (ztg_before w) (ztg_writes w).toNatClampNeg (ztg_words w) = zxg_words u
    rw [g2, nI_clamp (by omega), g4, Rw]
  · exact f1.trans Rb
  · exact f2.trans Rp
  · exact Rs
  · exact Rl
  · exact f3.trans Rc
  · exact Rt
  · rfl
  · exact f4.trans Rcy
  · exact f5.trans Rd


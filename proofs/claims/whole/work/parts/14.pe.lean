set_option maxHeartbeats 4000000 in
theorem zt_F_push (u : Zts) (a1 a2 a3 : Int32) : ztg_thrown (zt_push u a1 a2 a3).2 = ztg_thrown u ∧ ztg_bytes (zt_push u a1 a2 a3).2 = ztg_bytes u ∧ ztg_pc (zt_push u a1 a2 a3).2 = ztg_pc u ∧ ztg_cpp (zt_push u a1 a2 a3).2 = ztg_cpp u ∧ ztg_state (zt_push u a1 a2 a3).2 = ztg_state u ∧ ztg_cycles (zt_push u a1 a2 a3).2 = ztg_cycles u ∧ ztg_done (zt_push u a1 a2 a3).2 = ztg_done u := by
  unfold zt_push
  dsimp only
  repeat' split
  all_goals simp only [zt_S_sp, zt_S_top, zt_S_lv, zt_S_next, zt_S_unknown, zt_S_amiss, zt_P_read, zt_P_byteAt, zt_P_pair, zt_P_write, and_self]
set_option maxHeartbeats 4000000 in
theorem zt_F_store (u : Zts) (a1 a2 a3 : Int32) : ztg_thrown (zt_store u a1 a2 a3).2 = ztg_thrown u ∧ ztg_bytes (zt_store u a1 a2 a3).2 = ztg_bytes u ∧ ztg_pc (zt_store u a1 a2 a3).2 = ztg_pc u ∧ ztg_cpp (zt_store u a1 a2 a3).2 = ztg_cpp u ∧ ztg_state (zt_store u a1 a2 a3).2 = ztg_state u ∧ ztg_cycles (zt_store u a1 a2 a3).2 = ztg_cycles u ∧ ztg_done (zt_store u a1 a2 a3).2 = ztg_done u := by
  unfold zt_store
  dsimp only
  repeat' split
  all_goals simp only [zt_S_sp, zt_S_top, zt_S_lv, zt_S_next, zt_S_unknown, zt_S_amiss, zt_P_read, zt_P_byteAt, zt_P_pair, zt_P_write, and_self]
set_option maxHeartbeats 4000000 in
theorem zt_F_swap (u : Zts) : ztg_thrown (zt_swap u ).2 = ztg_thrown u ∧ ztg_bytes (zt_swap u ).2 = ztg_bytes u ∧ ztg_pc (zt_swap u ).2 = ztg_pc u ∧ ztg_cpp (zt_swap u ).2 = ztg_cpp u ∧ ztg_state (zt_swap u ).2 = ztg_state u ∧ ztg_cycles (zt_swap u ).2 = ztg_cycles u ∧ ztg_done (zt_swap u ).2 = ztg_done u := by
  unfold zt_swap
  dsimp only
  repeat' split
  all_goals simp only [zt_S_sp, zt_S_top, zt_S_lv, zt_S_next, zt_S_unknown, zt_S_amiss, zt_P_read, zt_P_byteAt, zt_P_pair, zt_P_write, and_self]
set_option maxHeartbeats 4000000 in
theorem zt_F_reckon (u : Zts) (a1 : Int32) : ztg_thrown (zt_reckon u a1).2 = ztg_thrown u ∧ ztg_bytes (zt_reckon u a1).2 = ztg_bytes u ∧ ztg_pc (zt_reckon u a1).2 = ztg_pc u ∧ ztg_cpp (zt_reckon u a1).2 = ztg_cpp u ∧ ztg_state (zt_reckon u a1).2 = ztg_state u ∧ ztg_cycles (zt_reckon u a1).2 = ztg_cycles u ∧ ztg_done (zt_reckon u a1).2 = ztg_done u := by
  unfold zt_reckon
  dsimp only
  repeat' split
  all_goals simp only [zt_S_sp, zt_S_top, zt_S_lv, zt_S_next, zt_S_unknown, zt_S_amiss, zt_P_read, zt_P_byteAt, zt_P_pair, zt_P_write, and_self]
set_option maxHeartbeats 4000000 in
theorem zt_F_wide (u : Zts) : ztg_thrown (zt_wide u ).2 = ztg_thrown u ∧ ztg_bytes (zt_wide u ).2 = ztg_bytes u ∧ ztg_pc (zt_wide u ).2 = ztg_pc u ∧ ztg_cpp (zt_wide u ).2 = ztg_cpp u ∧ ztg_state (zt_wide u ).2 = ztg_state u ∧ ztg_cycles (zt_wide u ).2 = ztg_cycles u ∧ ztg_done (zt_wide u ).2 = ztg_done u := by
  unfold zt_wide
  dsimp only
  repeat' split
  all_goals simp only [zt_S_sp, zt_S_top, zt_S_lv, zt_S_next, zt_S_unknown, zt_S_amiss, zt_P_read, zt_P_byteAt, zt_P_pair, zt_P_write, zt_F_push, zt_F_store, and_self]
set_option maxHeartbeats 4000000 in
theorem zt_F_increase (u : Zts) : ztg_thrown (zt_increase u ).2 = ztg_thrown u ∧ ztg_bytes (zt_increase u ).2 = ztg_bytes u ∧ ztg_pc (zt_increase u ).2 = ztg_pc u ∧ ztg_cpp (zt_increase u ).2 = ztg_cpp u ∧ ztg_state (zt_increase u ).2 = ztg_state u ∧ ztg_cycles (zt_increase u ).2 = ztg_cycles u ∧ ztg_done (zt_increase u ).2 = ztg_done u := by
  unfold zt_increase
  dsimp only
  repeat' split
  all_goals simp only [zt_S_sp, zt_S_top, zt_S_lv, zt_S_next, zt_S_unknown, zt_S_amiss, zt_P_read, zt_P_byteAt, zt_P_pair, zt_P_write, and_self]
set_option maxHeartbeats 4000000 in
theorem zt_F_jump (u : Zts) (a1 a2 a3 : Int32) : ztg_thrown (zt_jump u a1 a2 a3).2 = ztg_thrown u ∧ ztg_bytes (zt_jump u a1 a2 a3).2 = ztg_bytes u ∧ ztg_pc (zt_jump u a1 a2 a3).2 = ztg_pc u ∧ ztg_cpp (zt_jump u a1 a2 a3).2 = ztg_cpp u ∧ ztg_state (zt_jump u a1 a2 a3).2 = ztg_state u ∧ ztg_cycles (zt_jump u a1 a2 a3).2 = ztg_cycles u ∧ ztg_done (zt_jump u a1 a2 a3).2 = ztg_done u := by
  unfold zt_jump
  dsimp only
  repeat' split
  all_goals simp only [zt_S_sp, zt_S_top, zt_S_lv, zt_S_next, zt_S_unknown, zt_S_amiss, zt_P_read, zt_P_byteAt, zt_P_pair, zt_P_write, and_self]
set_option maxHeartbeats 4000000 in
theorem zt_F_ifs (u : Zts) (a1 : Int32) : ztg_thrown (zt_ifs u a1).2 = ztg_thrown u ∧ ztg_bytes (zt_ifs u a1).2 = ztg_bytes u ∧ ztg_pc (zt_ifs u a1).2 = ztg_pc u ∧ ztg_cpp (zt_ifs u a1).2 = ztg_cpp u ∧ ztg_state (zt_ifs u a1).2 = ztg_state u ∧ ztg_cycles (zt_ifs u a1).2 = ztg_cycles u ∧ ztg_done (zt_ifs u a1).2 = ztg_done u := by
  unfold zt_ifs
  dsimp only
  repeat' split
  all_goals simp only [zt_S_sp, zt_S_top, zt_S_lv, zt_S_next, zt_S_unknown, zt_S_amiss, zt_P_read, zt_P_byteAt, zt_P_pair, zt_P_write, zt_F_jump, and_self]
set_option maxHeartbeats 4000000 in
theorem zt_F_call (u : Zts) : ztg_thrown (zt_call u ).2 = ztg_thrown u ∧ ztg_bytes (zt_call u ).2 = ztg_bytes u ∧ ztg_pc (zt_call u ).2 = ztg_pc u ∧ ztg_cpp (zt_call u ).2 = ztg_cpp u ∧ ztg_state (zt_call u ).2 = ztg_state u ∧ ztg_cycles (zt_call u ).2 = ztg_cycles u ∧ ztg_done (zt_call u ).2 = ztg_done u := by
  unfold zt_call
  dsimp only
  repeat' split
  all_goals simp only [zt_S_sp, zt_S_top, zt_S_lv, zt_S_next, zt_S_unknown, zt_S_amiss, zt_P_read, zt_P_byteAt, zt_P_pair, zt_P_write, and_self]
set_option maxHeartbeats 4000000 in
theorem zt_F_giveBack (u : Zts) : ztg_thrown (zt_giveBack u ).2 = ztg_thrown u ∧ ztg_bytes (zt_giveBack u ).2 = ztg_bytes u ∧ ztg_pc (zt_giveBack u ).2 = ztg_pc u ∧ ztg_cpp (zt_giveBack u ).2 = ztg_cpp u ∧ ztg_state (zt_giveBack u ).2 = ztg_state u ∧ ztg_cycles (zt_giveBack u ).2 = ztg_cycles u ∧ ztg_done (zt_giveBack u ).2 = ztg_done u := by
  unfold zt_giveBack
  dsimp only
  repeat' split
  all_goals simp only [zt_S_sp, zt_S_top, zt_S_lv, zt_S_next, zt_S_unknown, zt_S_amiss, zt_P_read, zt_P_byteAt, zt_P_pair, zt_P_write, and_self]
set_option maxHeartbeats 4000000 in
theorem zt_F_perform (u : Zts) (a1 : Int32) : ztg_thrown (zt_perform u a1).2 = ztg_thrown u ∧ ztg_bytes (zt_perform u a1).2 = ztg_bytes u ∧ ztg_pc (zt_perform u a1).2 = ztg_pc u ∧ ztg_cpp (zt_perform u a1).2 = ztg_cpp u ∧ ztg_state (zt_perform u a1).2 = ztg_state u ∧ ztg_cycles (zt_perform u a1).2 = ztg_cycles u ∧ ztg_done (zt_perform u a1).2 = ztg_done u := by
  unfold zt_perform
  dsimp only
  repeat' split
  all_goals simp only [zt_S_sp, zt_S_top, zt_S_lv, zt_S_next, zt_S_unknown, zt_S_amiss, zt_P_read, zt_P_byteAt, zt_P_pair, zt_P_write, zt_F_push, zt_F_store, zt_F_swap, zt_F_reckon, zt_F_wide, zt_F_increase, zt_F_jump, zt_F_ifs, zt_F_call, zt_F_giveBack, and_self]

set_option maxHeartbeats 4000000 in
set_option maxRecDepth 100000 in
/-- every opcode but HALT: the class's step and what the reference performs -/
theorem zperf {u : Zxs} {v : Zts} (R : Zrel u v) (Y : Zbyt u) (A : ztg_amiss v = 0) (N : ztg_unknown v = 0) (B : zinB (zxg_pc u)) (h255 : ¬ zx_unsignedByte u (zxg_pc u) = 255) : ZFin u (zx_step u) (zt_perform v (zx_unsignedByte u (zxg_pc u))) := by
  have hB : ¬ zx_areBytes (zxg_pc u) 1 = 0 := fun q => (zaB1 _).mp q B
  unfold zx_step
  rw [if_neg hB]
  generalize zx_unsignedByte u (zxg_pc u) = op at h255 ⊢
  unfold zt_perform
  dsimp only
  have R1 : Zrel u (zts_next v (ztg_pc v + 1)) := R.next _
  have A1 : ztg_amiss (zts_next v (ztg_pc v + 1)) = 0 := A
  have N1 : ztg_unknown (zts_next v (ztg_pc v + 1)) = 0 := N
  have NX : ztg_next (zts_next v (ztg_pc v + 1)) = zxg_pc u + 1 := by rw [← R.2.2.1]; rfl
  generalize zts_next v (ztg_pc v + 1) = v1 at R1 A1 N1 NX ⊢
  by_cases c0 : op = 0
  · rw [if_pos c0, if_pos c0]
    exact Or.inl ⟨A1, N1, R1.1.symm, rfl, NX.symm, R1.2.2.2.1.symm, R1.2.2.2.2.1.symm, rfl, R1.2.2.2.2.2.2.1.symm, rfl, rfl, rfl⟩
  rw [if_neg c0, if_neg c0]
  by_cases c16 : op = 16
  · rw [if_pos c16, if_pos c16]
    exact zo_pushByte R1 Y A1 N1 B
  rw [if_neg c16, if_neg c16]
  by_cases c19 : op = 19
  · rw [if_pos c19, if_pos c19]
    exact zo_loadConstant R1 A1 N1 B
  rw [if_neg c19, if_neg c19]
  by_cases c21 : op = 21
  · rw [if_pos c21, if_pos c21]
    exact zo_loadNarrow R1 A1 N1 B
  rw [if_neg c21, if_neg c21]
  by_cases c54 : op = 54
  · rw [if_pos c54, if_pos c54]
    exact zo_storeNarrow R1 A1 N1 B
  rw [if_neg c54, if_neg c54]
  by_cases c87 : op = 87
  · rw [if_pos c87, if_pos c87]
    exact zo_pop R1 A1 N1 NX
  rw [if_neg c87, if_neg c87]
  by_cases c89 : op = 89
  · rw [if_pos c89, if_pos c89]
    rw [R1.2.2.2.2.2.2.1]; exact zo_push R1 A1 N1 _ 1 3
  rw [if_neg c89, if_neg c89]
  by_cases c95 : op = 95
  · rw [if_pos c95, if_pos c95]
    exact zo_swap R1 A1 N1 NX
  rw [if_neg c95, if_neg c95]
  by_cases c96 : op = 96
  · rw [if_pos c96, if_pos c96]
    exact zo_combine R1 A1 N1 NX op
  rw [if_neg c96, if_neg c96]
  by_cases c100 : op = 100
  · rw [if_pos c100, if_pos c100]
    exact zo_combine R1 A1 N1 NX op
  rw [if_neg c100, if_neg c100]
  by_cases c126 : op = 126
  · rw [if_pos c126, if_pos c126]
    exact zo_combine R1 A1 N1 NX op
  rw [if_neg c126, if_neg c126]
  by_cases c128 : op = 128
  · rw [if_pos c128, if_pos c128]
    exact zo_combine R1 A1 N1 NX op
  rw [if_neg c128, if_neg c128]
  by_cases c132 : op = 132
  · rw [if_pos c132, if_pos c132]
    exact zo_increase R1 Y A1 N1 B
  rw [if_neg c132, if_neg c132]
  by_cases c153 : op = 153
  · rw [if_pos c153, if_pos c153]
    rw [c153]; exact zo_ifs153 R1 Y A1 N1 B
  rw [if_neg c153, if_neg c153]
  by_cases c155 : op = 155
  · rw [if_pos c155, if_pos c155]
    rw [c155]; exact zo_ifs155 R1 Y A1 N1 B
  rw [if_neg c155, if_neg c155]
  by_cases c159 : op = 159
  · rw [if_pos c159, if_pos c159]
    rw [c159]; exact zo_like R1 Y A1 N1 B
  rw [if_neg c159, if_neg c159]
  by_cases c167 : op = 167
  · rw [if_pos c167, if_pos c167]
    exact zo_jump R1 Y A1 N1 B 7 7
  rw [if_neg c167, if_neg c167]
  by_cases c172 : op = 172
  · rw [if_pos c172, if_pos c172]
    exact zo_leave R1 A1 N1
  rw [if_neg c172, if_neg c172]
  by_cases c182 : op = 182
  · rw [if_pos c182, if_pos c182]
    exact zo_enter R1 A1 N1 B
  rw [if_neg c182, if_neg c182]
  by_cases c196 : op = 196
  · rw [if_pos c196, if_pos c196]
    exact zo_wide R1 A1 N1 B
  rw [if_neg c196, if_neg c196]
  rw [if_neg h255, if_neg h255]
  exact Or.inr (Or.inr ⟨A1, (by decide : ¬ (1 : Int32) = 0), rfl⟩)
/-- what is left when a machine has stopped amiss or unknown: all as it was, but the state -/
theorem z_undo {u : Zxs} {v w : Zts} {n : Nat} (R : Zrel u v) (hn : n ≤ 8) (G : ZtG (ztg_words v) n w) (F : ztg_bytes w = ztg_bytes v ∧ ztg_pc w = ztg_pc v ∧ ztg_cpp w = ztg_cpp v ∧ ztg_cycles w = ztg_cycles v ∧ ztg_done w = ztg_done v) (c : Int32) :
    Zrel (zxs_state u c) (zts_state (zts_top (zts_lv (zts_sp (zt_undone w) (ztg_sp v)) (ztg_lv v)) (ztg_top v)) c) := by
  obtain ⟨Rw, Rb, Rp, Rs, Rl, Rc, Rt, Rst, Rcy, Rd⟩ := R
  obtain ⟨f1, f2, f3, f4, f5⟩ := F
  obtain ⟨j, g1, g2, -, g4⟩ := G
  refine ⟨?_, ?_, ?_, ?_, ?_, ?_, ?_, ?_, ?_, ?_⟩
  · show zundo (ztg_places w) (ztg_before w) (ztg_writes w).toNatClampNeg (ztg_words w) = zxg_words u
    rw [g2, nI_clamp (by omega), g4, Rw]
  · exact f1.trans Rb
  · exact f2.trans Rp
  · exact Rs
  · exact Rl
  · exact f3.trans Rc
  · exact Rt
  · rfl
  · exact f4.trans Rcy
  · exact f5.trans Rd


set_option maxHeartbeats 4000000 in
set_option maxRecDepth 100000 in
/-- ONE STEP OF BOTH -/
theorem zstep {u : Zxs} {v : Zts} (R : Zrel u v) (Y : Zbyt u) (S0 : zxg_state u = 0) : Zrel (zx_step u) (zt_step v) ∧ Zbyt (zx_step u) := by
  unfold zt_step
  dsimp only
  have R3 : Zrel u (zts_writes (zts_unknown (zts_amiss v 0) 0) 0) := R
  have A3 : ztg_amiss (zts_writes (zts_unknown (zts_amiss v 0) 0) 0) = 0 := rfl
  have N3 : ztg_unknown (zts_writes (zts_unknown (zts_amiss v 0) 0) 0) = 0 := rfl
  have G3 : ZtG (ztg_words (zts_writes (zts_unknown (zts_amiss v 0) 0) 0)) 0 (zts_writes (zts_unknown (zts_amiss v 0) 0) 0) := zt_G0 (zts_unknown (zts_amiss v 0) 0)
  have e1 : ztg_sp v = ztg_sp (zts_writes (zts_unknown (zts_amiss v 0) 0) 0) := rfl
  have e2 : ztg_lv v = ztg_lv (zts_writes (zts_unknown (zts_amiss v 0) 0) 0) := rfl
  have e3 : ztg_top v = ztg_top (zts_writes (zts_unknown (zts_amiss v 0) 0) 0) := rfl
  rw [e1, e2, e3]
  generalize zts_writes (zts_unknown (zts_amiss v 0) 0) 0 = w at R3 A3 N3 G3 ⊢
  rw [R3.2.2.1]
  have Ab := zt_A_byteAt w (zxg_pc u)
  have Rb := R3.byteAt (zxg_pc u)
  have Gb := zt_G_byteAt (zxg_pc u) G3
  have Nb := zn_byteAt N3 (zxg_pc u)
  by_cases hB : zinB (zxg_pc u)
  · have Am := Ab.mpr ⟨A3, hB⟩
    rw [if_pos Am, zv_ub R3 hB]
    have hpb := zt_P_byteAt w (zxg_pc u)
    have hsp : ztg_sp (zt_byteAt w (zxg_pc u)).2 = ztg_sp w := by simp only [zt_P_byteAt]
    have hlv : ztg_lv (zt_byteAt w (zxg_pc u)).2 = ztg_lv w := by simp only [zt_P_byteAt]
    have htp : ztg_top (zt_byteAt w (zxg_pc u)).2 = ztg_top w := by simp only [zt_P_byteAt]
    have hwd : ztg_words (zt_byteAt w (zxg_pc u)).2 = ztg_words w := by simp only [zt_P_byteAt]
    rw [← hsp, ← hlv, ← htp]
    rw [← hwd] at Gb
    clear hpb hsp hlv htp hwd Ab
    generalize (zt_byteAt w (zxg_pc u)).2 = x at Rb Gb Nb Am ⊢
    by_cases h255 : zx_unsignedByte u (zxg_pc u) = 255
    · have hp : zt_perform x (zx_unsignedByte u (zxg_pc u)) = (2, zts_next (zts_next x (ztg_pc x + 1)) (ztg_pc x)) := by
        rw [h255]; unfold zt_perform
        simp only [show ¬ ((255 : Int32) = 0) from by decide, show ¬ ((255 : Int32) = 16) from by decide, show ¬ ((255 : Int32) = 19) from by decide, show ¬ ((255 : Int32) = 21) from by decide, show ¬ ((255 : Int32) = 54) from by decide, show ¬ ((255 : Int32) = 87) from by decide, show ¬ ((255 : Int32) = 89) from by decide, show ¬ ((255 : Int32) = 95) from by decide, show ¬ ((255 : Int32) = 96) from by decide, show ¬ ((255 : Int32) = 100) from by decide, show ¬ ((255 : Int32) = 126) from by decide, show ¬ ((255 : Int32) = 128) from by decide, show ¬ ((255 : Int32) = 132) from by decide, show ¬ ((255 : Int32) = 153) from by decide, show ¬ ((255 : Int32) = 155) from by decide, show ¬ ((255 : Int32) = 159) from by decide, show ¬ ((255 : Int32) = 167) from by decide, show ¬ ((255 : Int32) = 172) from by decide, show ¬ ((255 : Int32) = 182) from by decide, show ¬ ((255 : Int32) = 196) from by decide, ↓reduceIte]
        rfl
      have hx : zx_step u = zx_halt u := by
        have hB1 : ¬ zx_areBytes (zxg_pc u) 1 = 0 := fun q => (zaB1 _).mp q hB
        unfold zx_step
        rw [if_neg hB1, h255]
        simp only [show ¬ ((255 : Int32) = 0) from by decide, show ¬ ((255 : Int32) = 16) from by decide, show ¬ ((255 : Int32) = 19) from by decide, show ¬ ((255 : Int32) = 21) from by decide, show ¬ ((255 : Int32) = 54) from by decide, show ¬ ((255 : Int32) = 87) from by decide, show ¬ ((255 : Int32) = 89) from by decide, show ¬ ((255 : Int32) = 95) from by decide, show ¬ ((255 : Int32) = 96) from by decide, show ¬ ((255 : Int32) = 100) from by decide, show ¬ ((255 : Int32) = 126) from by decide, show ¬ ((255 : Int32) = 128) from by decide, show ¬ ((255 : Int32) = 132) from by decide, show ¬ ((255 : Int32) = 153) from by decide, show ¬ ((255 : Int32) = 155) from by decide, show ¬ ((255 : Int32) = 159) from by decide, show ¬ ((255 : Int32) = 167) from by decide, show ¬ ((255 : Int32) = 172) from by decide, show ¬ ((255 : Int32) = 182) from by decide, show ¬ ((255 : Int32) = 196) from by decide, ↓reduceIte]
      rw [hp, hx, if_pos Am, if_pos Nb, if_pos h255]
      obtain ⟨Rw, Rbb, Rp, Rs, Rl, Rc, Rt, Rst, Rcy, Rd⟩ := Rb
      refine ⟨⟨Rw, Rbb, Rp, Rs, Rl, Rc, Rt, rfl, ?_, ?_⟩, Y⟩
      · show ztg_cycles x + 2 = zxg_cycles u + 2
        rw [Rcy]
      · show ztg_done x + 1 = zxg_instructions u + 1
        rw [Rd]
    · have J := zperf Rb Y Am Nb hB h255
      have Gp := zt_G_perform (zx_unsignedByte u (zxg_pc u)) (by decide) Gb
      have Fp := zt_F_perform x (zx_unsignedByte u (zxg_pc u))
      generalize zt_perform x (zx_unsignedByte u (zxg_pc u)) = r at J Gp Fp ⊢
      obtain ⟨time, y⟩ := r
      dsimp only at J Gp Fp ⊢
      obtain ⟨Fth, Fb, Fpc, Fcp, Fst, Fcy, Fdn⟩ := Fp
      rcases J with ⟨j1, j2, j3, j4, j5, j6, j7, j8, j9, j10, j11, j12⟩ | ⟨j1, j2⟩ | ⟨j1, j2, j3⟩
      · dsimp only at j1 j2 j3 j5 j6 j7 j9 j11
        rw [if_pos j1, if_pos j2, if_neg h255]
        refine ⟨⟨j3.symm, ?_, j5.symm, j6.symm, j7.symm, ?_, j9.symm, ?_, ?_, ?_⟩, ?_⟩
        · show ztg_bytes y = _
          rw [Fb, Rb.2.1, j4]
        · show ztg_cpp y = _
          rw [Fcp, j8]; exact Rb.2.2.2.2.2.1
        · show (0 : Int32) = _
          rw [j10, S0]
        · show ztg_cycles y + time = _
          rw [Fcy, j11, Rb.2.2.2.2.2.2.2.2.1]
        · show ztg_done y + 1 = _
          rw [Fdn, j12, Rb.2.2.2.2.2.2.2.2.2]
        · unfold Zbyt; rw [j4]; exact Y
      · dsimp only at j1
        rw [if_neg j1, if_neg (show ¬ ztg_amiss (zts_top (zts_lv (zts_sp (zt_undone y) (ztg_sp x)) (ztg_lv x)) (ztg_top x)) = 0 from j1), j2]
        exact ⟨z_undo Rb (by decide) Gp ⟨Fb, Fpc, Fcp, Fcy, Fdn⟩ 3, Y⟩
      · dsimp only at j1 j2
        rw [if_pos j1, if_neg j2, if_pos (show ztg_amiss (zts_top (zts_lv (zts_sp (zt_undone y) (ztg_sp x)) (ztg_lv x)) (ztg_top x)) = 0 from j1), j3]
        exact ⟨z_undo Rb (by decide) Gp ⟨Fb, Fpc, Fcp, Fcy, Fdn⟩ 2, Y⟩
  · have Am : ¬ ztg_amiss (zt_byteAt w (zxg_pc u)).2 = 0 := fun q => hB (Ab.mp q).2
    have hx : zx_step u = zx_fault u := by
      unfold zx_step
      rw [if_pos ((zaB1 _).mpr hB)]
    have F : ztg_bytes (zt_byteAt w (zxg_pc u)).2 = ztg_bytes w ∧ ztg_pc (zt_byteAt w (zxg_pc u)).2 = ztg_pc w ∧ ztg_cpp (zt_byteAt w (zxg_pc u)).2 = ztg_cpp w ∧ ztg_cycles (zt_byteAt w (zxg_pc u)).2 = ztg_cycles w ∧ ztg_done (zt_byteAt w (zxg_pc u)).2 = ztg_done w := by simp only [zt_P_byteAt, and_self]
    generalize (zt_byteAt w (zxg_pc u)).2 = x at Am Gb F ⊢
    rw [if_neg Am, if_neg Am, if_neg (show ¬ ztg_amiss (zts_top (zts_lv (zts_sp (zt_undone x) (ztg_sp w)) (ztg_lv w)) (ztg_top w)) = 0 from Am), hx]
    exact ⟨z_undo (n := 0 + 0) R3 (by decide) Gb F 3, Y⟩


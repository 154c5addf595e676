set_option maxHeartbeats 4000000 in
theorem zt_F_perform (u : Zts) (a1 : Int32) : ztg_thrown (zt_perform u a1).2 = ztg_thrown u ∧ ztg_bytes (zt_perform u a1).2 = ztg_bytes u ∧ ztg_pc (zt_perform u a1).2 = ztg_pc u ∧ ztg_cpp (zt_perform u a1).2 = ztg_cpp u ∧ ztg_state (zt_perform u a1).2 = ztg_state u ∧ ztg_cycles (zt_perform u a1).2 = ztg_cycles u ∧ ztg_done (zt_perform u a1).2 = ztg_done u := by
  unfold zt_perform
  dsimp only
  by_cases c0 : a1 = 0
  · rw [if_pos c0]
    simp only [zt_S_sp, zt_S_top, zt_S_lv, zt_S_next, zt_S_unknown, zt_S_amiss, zt_P_read, zt_P_byteAt, zt_P_pair, zt_P_write, zt_F_push, zt_F_store, zt_F_swap, zt_F_reckon, zt_F_wide, zt_F_increase, zt_F_jump, zt_F_ifs, zt_F_call, zt_F_giveBack, and_self]
  rw [if_neg c0]
  by_cases c16 : a1 = 16
  · rw [if_pos c16]
    simp only [zt_S_sp, zt_S_top, zt_S_lv, zt_S_next, zt_S_unknown, zt_S_amiss, zt_P_read, zt_P_byteAt, zt_P_pair, zt_P_write, zt_F_push, zt_F_store, zt_F_swap, zt_F_reckon, zt_F_wide, zt_F_increase, zt_F_jump, zt_F_ifs, zt_F_call, zt_F_giveBack, and_self]
  rw [if_neg c16]
  by_cases c19 : a1 = 19
  · rw [if_pos c19]
    simp only [zt_S_sp, zt_S_top, zt_S_lv, zt_S_next, zt_S_unknown, zt_S_amiss, zt_P_read, zt_P_byteAt, zt_P_pair, zt_P_write, zt_F_push, zt_F_store, zt_F_swap, zt_F_reckon, zt_F_wide, zt_F_increase, zt_F_jump, zt_F_ifs, zt_F_call, zt_F_giveBack, and_self]
  rw [if_neg c19]
  by_cases c21 : a1 = 21
  · rw [if_pos c21]
    simp only [zt_S_sp, zt_S_top, zt_S_lv, zt_S_next, zt_S_unknown, zt_S_amiss, zt_P_read, zt_P_byteAt, zt_P_pair, zt_P_write, zt_F_push, zt_F_store, zt_F_swap, zt_F_reckon, zt_F_wide, zt_F_increase, zt_F_jump, zt_F_ifs, zt_F_call, zt_F_giveBack, and_self]
  rw [if_neg c21]
  by_cases c54 : a1 = 54
  · rw [if_pos c54]
    simp only [zt_S_sp, zt_S_top, zt_S_lv, zt_S_next, zt_S_unknown, zt_S_amiss, zt_P_read, zt_P_byteAt, zt_P_pair, zt_P_write, zt_F_push, zt_F_store, zt_F_swap, zt_F_reckon, zt_F_wide, zt_F_increase, zt_F_jump, zt_F_ifs, zt_F_call, zt_F_giveBack, and_self]
  rw [if_neg c54]
  by_cases c87 : a1 = 87
  · rw [if_pos c87]
    simp only [zt_S_sp, zt_S_top, zt_S_lv, zt_S_next, zt_S_unknown, zt_S_amiss, zt_P_read, zt_P_byteAt, zt_P_pair, zt_P_write, zt_F_push, zt_F_store, zt_F_swap, zt_F_reckon, zt_F_wide, zt_F_increase, zt_F_jump, zt_F_ifs, zt_F_call, zt_F_giveBack, and_self]
  rw [if_neg c87]
  by_cases c89 : a1 = 89
  · rw [if_pos c89]
    simp only [zt_S_sp, zt_S_top, zt_S_lv, zt_S_next, zt_S_unknown, zt_S_amiss, zt_P_read, zt_P_byteAt, zt_P_pair, zt_P_write, zt_F_push, zt_F_store, zt_F_swap, zt_F_reckon, zt_F_wide, zt_F_increase, zt_F_jump, zt_F_ifs, zt_F_call, zt_F_giveBack, and_self]
  rw [if_neg c89]
  by_cases c95 : a1 = 95
  · rw [if_pos c95]
    simp only [zt_S_sp, zt_S_top, zt_S_lv, zt_S_next, zt_S_unknown, zt_S_amiss, zt_P_read, zt_P_byteAt, zt_P_pair, zt_P_write, zt_F_push, zt_F_store, zt_F_swap, zt_F_reckon, zt_F_wide, zt_F_increase, zt_F_jump, zt_F_ifs, zt_F_call, zt_F_giveBack, and_self]
  rw [if_neg c95]
  by_cases c96 : a1 = 96
  · rw [if_pos c96]
    simp only [zt_S_sp, zt_S_top, zt_S_lv, zt_S_next, zt_S_unknown, zt_S_amiss, zt_P_read, zt_P_byteAt, zt_P_pair, zt_P_write, zt_F_push, zt_F_store, zt_F_swap, zt_F_reckon, zt_F_wide, zt_F_increase, zt_F_jump, zt_F_ifs, zt_F_call, zt_F_giveBack, and_self]
  rw [if_neg c96]
  by_cases c100 : a1 = 100
  · rw [if_pos c100]
    simp only [zt_S_sp, zt_S_top, zt_S_lv, zt_S_next, zt_S_unknown, zt_S_amiss, zt_P_read, zt_P_byteAt, zt_P_pair, zt_P_write, zt_F_push, zt_F_store, zt_F_swap, zt_F_reckon, zt_F_wide, zt_F_increase, zt_F_jump, zt_F_ifs, zt_F_call, zt_F_giveBack, and_self]
  rw [if_neg c100]
  by_cases c126 : a1 = 126
  · rw [if_pos c126]
    simp only [zt_S_sp, zt_S_top, zt_S_lv, zt_S_next, zt_S_unknown, zt_S_amiss, zt_P_read, zt_P_byteAt, zt_P_pair, zt_P_write, zt_F_push, zt_F_store, zt_F_swap, zt_F_reckon, zt_F_wide, zt_F_increase, zt_F_jump, zt_F_ifs, zt_F_call, zt_F_giveBack, and_self]
  rw [if_neg c126]
  by_cases c128 : a1 = 128
  · rw [if_pos c128]
    simp only [zt_S_sp, zt_S_top, zt_S_lv, zt_S_next, zt_S_unknown, zt_S_amiss, zt_P_read, zt_P_byteAt, zt_P_pair, zt_P_write, zt_F_push, zt_F_store, zt_F_swap, zt_F_reckon, zt_F_wide, zt_F_increase, zt_F_jump, zt_F_ifs, zt_F_call, zt_F_giveBack, and_self]
  rw [if_neg c128]
  by_cases c132 : a1 = 132
  · rw [if_pos c132]
    simp only [zt_S_sp, zt_S_top, zt_S_lv, zt_S_next, zt_S_unknown, zt_S_amiss, zt_P_read, zt_P_byteAt, zt_P_pair, zt_P_write, zt_F_push, zt_F_store, zt_F_swap, zt_F_reckon, zt_F_wide, zt_F_increase, zt_F_jump, zt_F_ifs, zt_F_call, zt_F_giveBack, and_self]
  rw [if_neg c132]
  by_cases c153 : a1 = 153
  · rw [if_pos c153]
    simp only [zt_S_sp, zt_S_top, zt_S_lv, zt_S_next, zt_S_unknown, zt_S_amiss, zt_P_read, zt_P_byteAt, zt_P_pair, zt_P_write, zt_F_push, zt_F_store, zt_F_swap, zt_F_reckon, zt_F_wide, zt_F_increase, zt_F_jump, zt_F_ifs, zt_F_call, zt_F_giveBack, and_self]
  rw [if_neg c153]
  by_cases c155 : a1 = 155
  · rw [if_pos c155]
    simp only [zt_S_sp, zt_S_top, zt_S_lv, zt_S_next, zt_S_unknown, zt_S_amiss, zt_P_read, zt_P_byteAt, zt_P_pair, zt_P_write, zt_F_push, zt_F_store, zt_F_swap, zt_F_reckon, zt_F_wide, zt_F_increase, zt_F_jump, zt_F_ifs, zt_F_call, zt_F_giveBack, and_self]
  rw [if_neg c155]
  by_cases c159 : a1 = 159
  · rw [if_pos c159]
    simp only [zt_S_sp, zt_S_top, zt_S_lv, zt_S_next, zt_S_unknown, zt_S_amiss, zt_P_read, zt_P_byteAt, zt_P_pair, zt_P_write, zt_F_push, zt_F_store, zt_F_swap, zt_F_reckon, zt_F_wide, zt_F_increase, zt_F_jump, zt_F_ifs, zt_F_call, zt_F_giveBack, and_self]
  rw [if_neg c159]
  by_cases c167 : a1 = 167
  · rw [if_pos c167]
    simp only [zt_S_sp, zt_S_top, zt_S_lv, zt_S_next, zt_S_unknown, zt_S_amiss, zt_P_read, zt_P_byteAt, zt_P_pair, zt_P_write, zt_F_push, zt_F_store, zt_F_swap, zt_F_reckon, zt_F_wide, zt_F_increase, zt_F_jump, zt_F_ifs, zt_F_call, zt_F_giveBack, and_self]
  rw [if_neg c167]
  by_cases c172 : a1 = 172
  · rw [if_pos c172]
    simp only [zt_S_sp, zt_S_top, zt_S_lv, zt_S_next, zt_S_unknown, zt_S_amiss, zt_P_read, zt_P_byteAt, zt_P_pair, zt_P_write, zt_F_push, zt_F_store, zt_F_swap, zt_F_reckon, zt_F_wide, zt_F_increase, zt_F_jump, zt_F_ifs, zt_F_call, zt_F_giveBack, and_self]
  rw [if_neg c172]
  by_cases c182 : a1 = 182
  · rw [if_pos c182]
    simp only [zt_S_sp, zt_S_top, zt_S_lv, zt_S_next, zt_S_unknown, zt_S_amiss, zt_P_read, zt_P_byteAt, zt_P_pair, zt_P_write, zt_F_push, zt_F_store, zt_F_swap, zt_F_reckon, zt_F_wide, zt_F_increase, zt_F_jump, zt_F_ifs, zt_F_call, zt_F_giveBack, and_self]
  rw [if_neg c182]
  by_cases c196 : a1 = 196
  · rw [if_pos c196]
    simp only [zt_S_sp, zt_S_top, zt_S_lv, zt_S_next, zt_S_unknown, zt_S_amiss, zt_P_read, zt_P_byteAt, zt_P_pair, zt_P_write, zt_F_push, zt_F_store, zt_F_swap, zt_F_reckon, zt_F_wide, zt_F_increase, zt_F_jump, zt_F_ifs, zt_F_call, zt_F_giveBack, and_self]
  rw [if_neg c196]
  by_cases c255 : a1 = 255
  · rw [if_pos c255]
    simp only [zt_S_sp, zt_S_top, zt_S_lv, zt_S_next, zt_S_unknown, zt_S_amiss, zt_P_read, zt_P_byteAt, zt_P_pair, zt_P_write, zt_F_push, zt_F_store, zt_F_swap, zt_F_reckon, zt_F_wide, zt_F_increase, zt_F_jump, zt_F_ifs, zt_F_call, zt_F_giveBack, and_self]
  rw [if_neg c255]
  simp only [zt_S_sp, zt_S_top, zt_S_lv, zt_S_next, zt_S_unknown, zt_S_amiss, zt_P_read, zt_P_byteAt, zt_P_pair, zt_P_write, zt_F_push, zt_F_store, zt_F_swap, zt_F_reckon, zt_F_wide, zt_F_increase, zt_F_jump, zt_F_ifs, zt_F_call, zt_F_giveBack, and_self]

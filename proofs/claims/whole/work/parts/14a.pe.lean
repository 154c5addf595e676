set_option maxHeartbeats 4000000 in
theorem zt_F_push (u : Zts) (a1 a2 a3 : Int32) : ztg_thrown (zt_push u a1 a2 a3).2 = ztg_thrown u ∧ ztg_bytes (zt_push u a1 a2 a3).2 = ztg_bytes u ∧ ztg_pc (zt_push u a1 a2 a3).2 = ztg_pc u ∧ ztg_cpp (zt_push u a1 a2 a3).2 = ztg_cpp u ∧ ztg_state (zt_push u a1 a2 a3).2 = ztg_state u ∧ ztg_cycles (zt_push u a1 a2 a3).2 = ztg_cycles u ∧ ztg_done (zt_push u a1 a2 a3).2 = ztg_done u := by
  unfold zt_push
  dsimp only
  repeat' split
  all_goals simp only [zt_S_sp, zt_S_top, zt_S_lv, zt_S_next, zt_S_unknown, zt_S_amiss, zt_P_read, zt_P_byteAt, zt_P_pair, zt_P_write, and_self]
set_option maxHeartbeats 4000000 in
theorem zt_F_store (u : Zts) (a1 a2 a3 : Int32) : ztg_thrown (zt_store u a1 a2 a3).2 = ztg_thrown u ∧ ztg_bytes (zt_store u a1 a2 a3).2 = ztg_bytes u ∧ ztg_pc (zt_store u a1 a2 a3).2 = ztg_pc u ∧ ztg_cpp (zt_store u a1 a2 a3).2 = ztg_cpp u ∧ ztg_state (zt_store u a1 a2 a3).2 = ztg_state u ∧ ztg_cycles (zt_store u a1 a2 a3).2 = ztg_cycles u ∧ ztg_done (zt_store u a1 a2 a3).2 = ztg_done u := by
  unfold zt_store
  dsimp only
  repeat' split
  all_goals simp only [zt_S_sp, zt_S_top, zt_S_lv, zt_S_next, zt_S_unknown, zt_S_amiss, zt_P_read, zt_P_byteAt, zt_P_pair, zt_P_write, and_self]
set_option maxHeartbeats 4000000 in
theorem zt_F_swap (u : Zts) : ztg_thrown (zt_swap u ).2 = ztg_thrown u ∧ ztg_bytes (zt_swap u ).2 = ztg_bytes u ∧ ztg_pc (zt_swap u ).2 = ztg_pc u ∧ ztg_cpp (zt_swap u ).2 = ztg_cpp u ∧ ztg_state (zt_swap u ).2 = ztg_state u ∧ ztg_cycles (zt_swap u ).2 = ztg_cycles u ∧ ztg_done (zt_swap u ).2 = ztg_done u := by
  unfold zt_swap
  dsimp only
  repeat' split
  all_goals simp only [zt_S_sp, zt_S_top, zt_S_lv, zt_S_next, zt_S_unknown, zt_S_amiss, zt_P_read, zt_P_byteAt, zt_P_pair, zt_P_write, and_self]
set_option maxHeartbeats 4000000 in
theorem zt_F_reckon (u : Zts) (a1 : Int32) : ztg_thrown (zt_reckon u a1).2 = ztg_thrown u ∧ ztg_bytes (zt_reckon u a1).2 = ztg_bytes u ∧ ztg_pc (zt_reckon u a1).2 = ztg_pc u ∧ ztg_cpp (zt_reckon u a1).2 = ztg_cpp u ∧ ztg_state (zt_reckon u a1).2 = ztg_state u ∧ ztg_cycles (zt_reckon u a1).2 = ztg_cycles u ∧ ztg_done (zt_reckon u a1).2 = ztg_done u := by
  unfold zt_reckon
  dsimp only
  repeat' split
  all_goals simp only [zt_S_sp, zt_S_top, zt_S_lv, zt_S_next, zt_S_unknown, zt_S_amiss, zt_P_read, zt_P_byteAt, zt_P_pair, zt_P_write, and_self]
set_option maxHeartbeats 4000000 in
theorem zt_F_wide (u : Zts) : ztg_thrown (zt_wide u ).2 = ztg_thrown u ∧ ztg_bytes (zt_wide u ).2 = ztg_bytes u ∧ ztg_pc (zt_wide u ).2 = ztg_pc u ∧ ztg_cpp (zt_wide u ).2 = ztg_cpp u ∧ ztg_state (zt_wide u ).2 = ztg_state u ∧ ztg_cycles (zt_wide u ).2 = ztg_cycles u ∧ ztg_done (zt_wide u ).2 = ztg_done u := by
  unfold zt_wide
  dsimp only
  repeat' split
  all_goals simp only [zt_S_sp, zt_S_top, zt_S_lv, zt_S_next, zt_S_unknown, zt_S_amiss, zt_P_read, zt_P_byteAt, zt_P_pair, zt_P_write, zt_F_push, zt_F_store, and_self]
set_option maxHeartbeats 4000000 in
theorem zt_F_increase (u : Zts) : ztg_thrown (zt_increase u ).2 = ztg_thrown u ∧ ztg_bytes (zt_increase u ).2 = ztg_bytes u ∧ ztg_pc (zt_increase u ).2 = ztg_pc u ∧ ztg_cpp (zt_increase u ).2 = ztg_cpp u ∧ ztg_state (zt_increase u ).2 = ztg_state u ∧ ztg_cycles (zt_increase u ).2 = ztg_cycles u ∧ ztg_done (zt_increase u ).2 = ztg_done u := by
  unfold zt_increase
  dsimp only
  repeat' split
  all_goals simp only [zt_S_sp, zt_S_top, zt_S_lv, zt_S_next, zt_S_unknown, zt_S_amiss, zt_P_read, zt_P_byteAt, zt_P_pair, zt_P_write, and_self]
set_option maxHeartbeats 4000000 in
theorem zt_F_jump (u : Zts) (a1 a2 a3 : Int32) : ztg_thrown (zt_jump u a1 a2 a3).2 = ztg_thrown u ∧ ztg_bytes (zt_jump u a1 a2 a3).2 = ztg_bytes u ∧ ztg_pc (zt_jump u a1 a2 a3).2 = ztg_pc u ∧ ztg_cpp (zt_jump u a1 a2 a3).2 = ztg_cpp u ∧ ztg_state (zt_jump u a1 a2 a3).2 = ztg_state u ∧ ztg_cycles (zt_jump u a1 a2 a3).2 = ztg_cycles u ∧ ztg_done (zt_jump u a1 a2 a3).2 = ztg_done u := by
  unfold zt_jump
  dsimp only
  repeat' split
  all_goals simp only [zt_S_sp, zt_S_top, zt_S_lv, zt_S_next, zt_S_unknown, zt_S_amiss, zt_P_read, zt_P_byteAt, zt_P_pair, zt_P_write, and_self]
set_option maxHeartbeats 4000000 in
theorem zt_F_ifs (u : Zts) (a1 : Int32) : ztg_thrown (zt_ifs u a1).2 = ztg_thrown u ∧ ztg_bytes (zt_ifs u a1).2 = ztg_bytes u ∧ ztg_pc (zt_ifs u a1).2 = ztg_pc u ∧ ztg_cpp (zt_ifs u a1).2 = ztg_cpp u ∧ ztg_state (zt_ifs u a1).2 = ztg_state u ∧ ztg_cycles (zt_ifs u a1).2 = ztg_cycles u ∧ ztg_done (zt_ifs u a1).2 = ztg_done u := by
  unfold zt_ifs
  dsimp only
  repeat' split
  all_goals simp only [zt_S_sp, zt_S_top, zt_S_lv, zt_S_next, zt_S_unknown, zt_S_amiss, zt_P_read, zt_P_byteAt, zt_P_pair, zt_P_write, zt_F_jump, and_self]
set_option maxHeartbeats 4000000 in
theorem zt_F_call (u : Zts) : ztg_thrown (zt_call u ).2 = ztg_thrown u ∧ ztg_bytes (zt_call u ).2 = ztg_bytes u ∧ ztg_pc (zt_call u ).2 = ztg_pc u ∧ ztg_cpp (zt_call u ).2 = ztg_cpp u ∧ ztg_state (zt_call u ).2 = ztg_state u ∧ ztg_cycles (zt_call u ).2 = ztg_cycles u ∧ ztg_done (zt_call u ).2 = ztg_done u := by
  unfold zt_call
  dsimp only
  repeat' split
  all_goals simp only [zt_S_sp, zt_S_top, zt_S_lv, zt_S_next, zt_S_unknown, zt_S_amiss, zt_P_read, zt_P_byteAt, zt_P_pair, zt_P_write, and_self]
set_option maxHeartbeats 4000000 in
theorem zt_F_giveBack (u : Zts) : ztg_thrown (zt_giveBack u ).2 = ztg_thrown u ∧ ztg_bytes (zt_giveBack u ).2 = ztg_bytes u ∧ ztg_pc (zt_giveBack u ).2 = ztg_pc u ∧ ztg_cpp (zt_giveBack u ).2 = ztg_cpp u ∧ ztg_state (zt_giveBack u ).2 = ztg_state u ∧ ztg_cycles (zt_giveBack u ).2 = ztg_cycles u ∧ ztg_done (zt_giveBack u ).2 = ztg_done u := by
  unfold zt_giveBack
  dsimp only
  repeat' split
  all_goals simp only [zt_S_sp, zt_S_top, zt_S_lv, zt_S_next, zt_S_unknown, zt_S_amiss, zt_P_read, zt_P_byteAt, zt_P_pair, zt_P_write, and_self]

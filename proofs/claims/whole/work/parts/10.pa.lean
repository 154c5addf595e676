theorem z10 : ((1 : Int32) = 0) = False := by decide
theorem z00 : ((0 : Int32) = 0) = True := by decide
theorem zt_P_read (u : Zts) (a : Int32) : ztg_thrown (zt_read u a).2 = ztg_thrown u ∧ ztg_words (zt_read u a).2 = ztg_words u ∧ ztg_bytes (zt_read u a).2 = ztg_bytes u ∧ ztg_pc (zt_read u a).2 = ztg_pc u ∧ ztg_sp (zt_read u a).2 = ztg_sp u ∧ ztg_lv (zt_read u a).2 = ztg_lv u ∧ ztg_cpp (zt_read u a).2 = ztg_cpp u ∧ ztg_top (zt_read u a).2 = ztg_top u ∧ ztg_state (zt_read u a).2 = ztg_state u ∧ ztg_cycles (zt_read u a).2 = ztg_cycles u ∧ ztg_done (zt_read u a).2 = ztg_done u ∧ ztg_next (zt_read u a).2 = ztg_next u ∧ ztg_unknown (zt_read u a).2 = ztg_unknown u ∧ ztg_writes (zt_read u a).2 = ztg_writes u ∧ ztg_places (zt_read u a).2 = ztg_places u ∧ ztg_before (zt_read u a).2 = ztg_before u := by
  unfold zt_read
  dsimp only
  repeat' split
  all_goals exact ⟨rfl, rfl, rfl, rfl, rfl, rfl, rfl, rfl, rfl, rfl, rfl, rfl, rfl, rfl, rfl, rfl⟩
theorem zt_P_byteAt (u : Zts) (a : Int32) : ztg_thrown (zt_byteAt u a).2 = ztg_thrown u ∧ ztg_words (zt_byteAt u a).2 = ztg_words u ∧ ztg_bytes (zt_byteAt u a).2 = ztg_bytes u ∧ ztg_pc (zt_byteAt u a).2 = ztg_pc u ∧ ztg_sp (zt_byteAt u a).2 = ztg_sp u ∧ ztg_lv (zt_byteAt u a).2 = ztg_lv u ∧ ztg_cpp (zt_byteAt u a).2 = ztg_cpp u ∧ ztg_top (zt_byteAt u a).2 = ztg_top u ∧ ztg_state (zt_byteAt u a).2 = ztg_state u ∧ ztg_cycles (zt_byteAt u a).2 = ztg_cycles u ∧ ztg_done (zt_byteAt u a).2 = ztg_done u ∧ ztg_next (zt_byteAt u a).2 = ztg_next u ∧ ztg_unknown (zt_byteAt u a).2 = ztg_unknown u ∧ ztg_writes (zt_byteAt u a).2 = ztg_writes u ∧ ztg_places (zt_byteAt u a).2 = ztg_places u ∧ ztg_before (zt_byteAt u a).2 = ztg_before u := by
  unfold zt_byteAt
  dsimp only
  repeat' split
  all_goals exact ⟨rfl, rfl, rfl, rfl, rfl, rfl, rfl, rfl, rfl, rfl, rfl, rfl, rfl, rfl, rfl, rfl⟩
theorem zt_P_pair (u : Zts) (a : Int32) : ztg_thrown (zt_pair u a).2 = ztg_thrown u ∧ ztg_words (zt_pair u a).2 = ztg_words u ∧ ztg_bytes (zt_pair u a).2 = ztg_bytes u ∧ ztg_pc (zt_pair u a).2 = ztg_pc u ∧ ztg_sp (zt_pair u a).2 = ztg_sp u ∧ ztg_lv (zt_pair u a).2 = ztg_lv u ∧ ztg_cpp (zt_pair u a).2 = ztg_cpp u ∧ ztg_top (zt_pair u a).2 = ztg_top u ∧ ztg_state (zt_pair u a).2 = ztg_state u ∧ ztg_cycles (zt_pair u a).2 = ztg_cycles u ∧ ztg_done (zt_pair u a).2 = ztg_done u ∧ ztg_next (zt_pair u a).2 = ztg_next u ∧ ztg_unknown (zt_pair u a).2 = ztg_unknown u ∧ ztg_writes (zt_pair u a).2 = ztg_writes u ∧ ztg_places (zt_pair u a).2 = ztg_places u ∧ ztg_before (zt_pair u a).2 = ztg_before u := by
  unfold zt_pair
  dsimp only
  simp only [zt_P_byteAt, and_self]
theorem zt_S_sp (u : Zts) (v : Int32) : ztg_thrown (zts_sp u v) = ztg_thrown u ∧ ztg_words (zts_sp u v) = ztg_words u ∧ ztg_bytes (zts_sp u v) = ztg_bytes u ∧ ztg_pc (zts_sp u v) = ztg_pc u ∧ ztg_sp (zts_sp u v) = v ∧ ztg_lv (zts_sp u v) = ztg_lv u ∧ ztg_cpp (zts_sp u v) = ztg_cpp u ∧ ztg_top (zts_sp u v) = ztg_top u ∧ ztg_state (zts_sp u v) = ztg_state u ∧ ztg_cycles (zts_sp u v) = ztg_cycles u ∧ ztg_done (zts_sp u v) = ztg_done u ∧ ztg_next (zts_sp u v) = ztg_next u ∧ ztg_amiss (zts_sp u v) = ztg_amiss u ∧ ztg_unknown (zts_sp u v) = ztg_unknown u ∧ ztg_writes (zts_sp u v) = ztg_writes u ∧ ztg_places (zts_sp u v) = ztg_places u ∧ ztg_before (zts_sp u v) = ztg_before u := ⟨rfl, rfl, rfl, rfl, rfl, rfl, rfl, rfl, rfl, rfl, rfl, rfl, rfl, rfl, rfl, rfl, rfl⟩
theorem zt_S_top (u : Zts) (v : Int32) : ztg_thrown (zts_top u v) = ztg_thrown u ∧ ztg_words (zts_top u v) = ztg_words u ∧ ztg_bytes (zts_top u v) = ztg_bytes u ∧ ztg_pc (zts_top u v) = ztg_pc u ∧ ztg_sp (zts_top u v) = ztg_sp u ∧ ztg_lv (zts_top u v) = ztg_lv u ∧ ztg_cpp (zts_top u v) = ztg_cpp u ∧ ztg_top (zts_top u v) = v ∧ ztg_state (zts_top u v) = ztg_state u ∧ ztg_cycles (zts_top u v) = ztg_cycles u ∧ ztg_done (zts_top u v) = ztg_done u ∧ ztg_next (zts_top u v) = ztg_next u ∧ ztg_amiss (zts_top u v) = ztg_amiss u ∧ ztg_unknown (zts_top u v) = ztg_unknown u ∧ ztg_writes (zts_top u v) = ztg_writes u ∧ ztg_places (zts_top u v) = ztg_places u ∧ ztg_before (zts_top u v) = ztg_before u := ⟨rfl, rfl, rfl, rfl, rfl, rfl, rfl, rfl, rfl, rfl, rfl, rfl, rfl, rfl, rfl, rfl, rfl⟩
theorem zt_S_lv (u : Zts) (v : Int32) : ztg_thrown (zts_lv u v) = ztg_thrown u ∧ ztg_words (zts_lv u v) = ztg_words u ∧ ztg_bytes (zts_lv u v) = ztg_bytes u ∧ ztg_pc (zts_lv u v) = ztg_pc u ∧ ztg_sp (zts_lv u v) = ztg_sp u ∧ ztg_lv (zts_lv u v) = v ∧ ztg_cpp (zts_lv u v) = ztg_cpp u ∧ ztg_top (zts_lv u v) = ztg_top u ∧ ztg_state (zts_lv u v) = ztg_state u ∧ ztg_cycles (zts_lv u v) = ztg_cycles u ∧ ztg_done (zts_lv u v) = ztg_done u ∧ ztg_next (zts_lv u v) = ztg_next u ∧ ztg_amiss (zts_lv u v) = ztg_amiss u ∧ ztg_unknown (zts_lv u v) = ztg_unknown u ∧ ztg_writes (zts_lv u v) = ztg_writes u ∧ ztg_places (zts_lv u v) = ztg_places u ∧ ztg_before (zts_lv u v) = ztg_before u := ⟨rfl, rfl, rfl, rfl, rfl, rfl, rfl, rfl, rfl, rfl, rfl, rfl, rfl, rfl, rfl, rfl, rfl⟩
theorem zt_S_next (u : Zts) (v : Int32) : ztg_thrown (zts_next u v) = ztg_thrown u ∧ ztg_words (zts_next u v) = ztg_words u ∧ ztg_bytes (zts_next u v) = ztg_bytes u ∧ ztg_pc (zts_next u v) = ztg_pc u ∧ ztg_sp (zts_next u v) = ztg_sp u ∧ ztg_lv (zts_next u v) = ztg_lv u ∧ ztg_cpp (zts_next u v) = ztg_cpp u ∧ ztg_top (zts_next u v) = ztg_top u ∧ ztg_state (zts_next u v) = ztg_state u ∧ ztg_cycles (zts_next u v) = ztg_cycles u ∧ ztg_done (zts_next u v) = ztg_done u ∧ ztg_next (zts_next u v) = v ∧ ztg_amiss (zts_next u v) = ztg_amiss u ∧ ztg_unknown (zts_next u v) = ztg_unknown u ∧ ztg_writes (zts_next u v) = ztg_writes u ∧ ztg_places (zts_next u v) = ztg_places u ∧ ztg_before (zts_next u v) = ztg_before u := ⟨rfl, rfl, rfl, rfl, rfl, rfl, rfl, rfl, rfl, rfl, rfl, rfl, rfl, rfl, rfl, rfl, rfl⟩
theorem zt_S_unknown (u : Zts) (v : Int32) : ztg_thrown (zts_unknown u v) = ztg_thrown u ∧ ztg_words (zts_unknown u v) = ztg_words u ∧ ztg_bytes (zts_unknown u v) = ztg_bytes u ∧ ztg_pc (zts_unknown u v) = ztg_pc u ∧ ztg_sp (zts_unknown u v) = ztg_sp u ∧ ztg_lv (zts_unknown u v) = ztg_lv u ∧ ztg_cpp (zts_unknown u v) = ztg_cpp u ∧ ztg_top (zts_unknown u v) = ztg_top u ∧ ztg_state (zts_unknown u v) = ztg_state u ∧ ztg_cycles (zts_unknown u v) = ztg_cycles u ∧ ztg_done (zts_unknown u v) = ztg_done u ∧ ztg_next (zts_unknown u v) = ztg_next u ∧ ztg_amiss (zts_unknown u v) = ztg_amiss u ∧ ztg_unknown (zts_unknown u v) = v ∧ ztg_writes (zts_unknown u v) = ztg_writes u ∧ ztg_places (zts_unknown u v) = ztg_places u ∧ ztg_before (zts_unknown u v) = ztg_before u := ⟨rfl, rfl, rfl, rfl, rfl, rfl, rfl, rfl, rfl, rfl, rfl, rfl, rfl, rfl, rfl, rfl, rfl⟩
theorem zt_S_amiss (u : Zts) (v : Int32) : ztg_thrown (zts_amiss u v) = ztg_thrown u ∧ ztg_words (zts_amiss u v) = ztg_words u ∧ ztg_bytes (zts_amiss u v) = ztg_bytes u ∧ ztg_pc (zts_amiss u v) = ztg_pc u ∧ ztg_sp (zts_amiss u v) = ztg_sp u ∧ ztg_lv (zts_amiss u v) = ztg_lv u ∧ ztg_cpp (zts_amiss u v) = ztg_cpp u ∧ ztg_top (zts_amiss u v) = ztg_top u ∧ ztg_state (zts_amiss u v) = ztg_state u ∧ ztg_cycles (zts_amiss u v) = ztg_cycles u ∧ ztg_done (zts_amiss u v) = ztg_done u ∧ ztg_next (zts_amiss u v) = ztg_next u ∧ ztg_amiss (zts_amiss u v) = v ∧ ztg_unknown (zts_amiss u v) = ztg_unknown u ∧ ztg_writes (zts_amiss u v) = ztg_writes u ∧ ztg_places (zts_amiss u v) = ztg_places u ∧ ztg_before (zts_amiss u v) = ztg_before u := ⟨rfl, rfl, rfl, rfl, rfl, rfl, rfl, rfl, rfl, rfl, rfl, rfl, rfl, rfl, rfl, rfl, rfl⟩
theorem zt_S_writes (u : Zts) (v : Int32) : ztg_thrown (zts_writes u v) = ztg_thrown u ∧ ztg_words (zts_writes u v) = ztg_words u ∧ ztg_bytes (zts_writes u v) = ztg_bytes u ∧ ztg_pc (zts_writes u v) = ztg_pc u ∧ ztg_sp (zts_writes u v) = ztg_sp u ∧ ztg_lv (zts_writes u v) = ztg_lv u ∧ ztg_cpp (zts_writes u v) = ztg_cpp u ∧ ztg_top (zts_writes u v) = ztg_top u ∧ ztg_state (zts_writes u v) = ztg_state u ∧ ztg_cycles (zts_writes u v) = ztg_cycles u ∧ ztg_done (zts_writes u v) = ztg_done u ∧ ztg_next (zts_writes u v) = ztg_next u ∧ ztg_amiss (zts_writes u v) = ztg_amiss u ∧ ztg_unknown (zts_writes u v) = ztg_unknown u ∧ ztg_writes (zts_writes u v) = v ∧ ztg_places (zts_writes u v) = ztg_places u ∧ ztg_before (zts_writes u v) = ztg_before u := ⟨rfl, rfl, rfl, rfl, rfl, rfl, rfl, rfl, rfl, rfl, rfl, rfl, rfl, rfl, rfl, rfl, rfl⟩
theorem zt_S_pc (u : Zts) (v : Int32) : ztg_thrown (zts_pc u v) = ztg_thrown u ∧ ztg_words (zts_pc u v) = ztg_words u ∧ ztg_bytes (zts_pc u v) = ztg_bytes u ∧ ztg_pc (zts_pc u v) = v ∧ ztg_sp (zts_pc u v) = ztg_sp u ∧ ztg_lv (zts_pc u v) = ztg_lv u ∧ ztg_cpp (zts_pc u v) = ztg_cpp u ∧ ztg_top (zts_pc u v) = ztg_top u ∧ ztg_state (zts_pc u v) = ztg_state u ∧ ztg_cycles (zts_pc u v) = ztg_cycles u ∧ ztg_done (zts_pc u v) = ztg_done u ∧ ztg_next (zts_pc u v) = ztg_next u ∧ ztg_amiss (zts_pc u v) = ztg_amiss u ∧ ztg_unknown (zts_pc u v) = ztg_unknown u ∧ ztg_writes (zts_pc u v) = ztg_writes u ∧ ztg_places (zts_pc u v) = ztg_places u ∧ ztg_before (zts_pc u v) = ztg_before u := ⟨rfl, rfl, rfl, rfl, rfl, rfl, rfl, rfl, rfl, rfl, rfl, rfl, rfl, rfl, rfl, rfl, rfl⟩
theorem zt_S_cycles (u : Zts) (v : Int32) : ztg_thrown (zts_cycles u v) = ztg_thrown u ∧ ztg_words (zts_cycles u v) = ztg_words u ∧ ztg_bytes (zts_cycles u v) = ztg_bytes u ∧ ztg_pc (zts_cycles u v) = ztg_pc u ∧ ztg_sp (zts_cycles u v) = ztg_sp u ∧ ztg_lv (zts_cycles u v) = ztg_lv u ∧ ztg_cpp (zts_cycles u v) = ztg_cpp u ∧ ztg_top (zts_cycles u v) = ztg_top u ∧ ztg_state (zts_cycles u v) = ztg_state u ∧ ztg_cycles (zts_cycles u v) = v ∧ ztg_done (zts_cycles u v) = ztg_done u ∧ ztg_next (zts_cycles u v) = ztg_next u ∧ ztg_amiss (zts_cycles u v) = ztg_amiss u ∧ ztg_unknown (zts_cycles u v) = ztg_unknown u ∧ ztg_writes (zts_cycles u v) = ztg_writes u ∧ ztg_places (zts_cycles u v) = ztg_places u ∧ ztg_before (zts_cycles u v) = ztg_before u := ⟨rfl, rfl, rfl, rfl, rfl, rfl, rfl, rfl, rfl, rfl, rfl, rfl, rfl, rfl, rfl, rfl, rfl⟩
theorem zt_S_done (u : Zts) (v : Int32) : ztg_thrown (zts_done u v) = ztg_thrown u ∧ ztg_words (zts_done u v) = ztg_words u ∧ ztg_bytes (zts_done u v) = ztg_bytes u ∧ ztg_pc (zts_done u v) = ztg_pc u ∧ ztg_sp (zts_done u v) = ztg_sp u ∧ ztg_lv (zts_done u v) = ztg_lv u ∧ ztg_cpp (zts_done u v) = ztg_cpp u ∧ ztg_top (zts_done u v) = ztg_top u ∧ ztg_state (zts_done u v) = ztg_state u ∧ ztg_cycles (zts_done u v) = ztg_cycles u ∧ ztg_done (zts_done u v) = v ∧ ztg_next (zts_done u v) = ztg_next u ∧ ztg_amiss (zts_done u v) = ztg_amiss u ∧ ztg_unknown (zts_done u v) = ztg_unknown u ∧ ztg_writes (zts_done u v) = ztg_writes u ∧ ztg_places (zts_done u v) = ztg_places u ∧ ztg_before (zts_done u v) = ztg_before u := ⟨rfl, rfl, rfl, rfl, rfl, rfl, rfl, rfl, rfl, rfl, rfl, rfl, rfl, rfl, rfl, rfl, rfl⟩
theorem zt_S_state (u : Zts) (v : Int32) : ztg_thrown (zts_state u v) = ztg_thrown u ∧ ztg_words (zts_state u v) = ztg_words u ∧ ztg_bytes (zts_state u v) = ztg_bytes u ∧ ztg_pc (zts_state u v) = ztg_pc u ∧ ztg_sp (zts_state u v) = ztg_sp u ∧ ztg_lv (zts_state u v) = ztg_lv u ∧ ztg_cpp (zts_state u v) = ztg_cpp u ∧ ztg_top (zts_state u v) = ztg_top u ∧ ztg_state (zts_state u v) = v ∧ ztg_cycles (zts_state u v) = ztg_cycles u ∧ ztg_done (zts_state u v) = ztg_done u ∧ ztg_next (zts_state u v) = ztg_next u ∧ ztg_amiss (zts_state u v) = ztg_amiss u ∧ ztg_unknown (zts_state u v) = ztg_unknown u ∧ ztg_writes (zts_state u v) = ztg_writes u ∧ ztg_places (zts_state u v) = ztg_places u ∧ ztg_before (zts_state u v) = ztg_before u := ⟨rfl, rfl, rfl, rfl, rfl, rfl, rfl, rfl, rfl, rfl, rfl, rfl, rfl, rfl, rfl, rfl, rfl⟩

theorem zt_write_eq (u : Zts) (a v : Int32) : zt_write u a v = if zt_isWord a = 0 then zts_amiss u 1 else zt_wr (zts_amiss u (if ztg_amiss u = 0 then 0 else 1)) a v := by
  unfold zt_write
  by_cases h1 : ztg_amiss u = 0
  · by_cases h2 : zt_isWord a = 0
    · rw [if_pos h1, if_pos h2, if_pos h2, if_pos h2]
    · rw [if_pos h1, if_neg h2, if_neg h2, if_neg h2, if_pos h1]; rfl
  · by_cases h2 : zt_isWord a = 0
    · rw [if_neg h1, if_pos h2, if_pos h2]
    · rw [if_neg h1, if_neg h2, if_neg h2, if_neg h1]; rfl

theorem zt_P_wr (u : Zts) (a v : Int32) : ztg_thrown (zt_wr u a v) = ztg_thrown u ∧ ztg_bytes (zt_wr u a v) = ztg_bytes u ∧ ztg_pc (zt_wr u a v) = ztg_pc u ∧ ztg_sp (zt_wr u a v) = ztg_sp u ∧ ztg_lv (zt_wr u a v) = ztg_lv u ∧ ztg_cpp (zt_wr u a v) = ztg_cpp u ∧ ztg_top (zt_wr u a v) = ztg_top u ∧ ztg_state (zt_wr u a v) = ztg_state u ∧ ztg_cycles (zt_wr u a v) = ztg_cycles u ∧ ztg_done (zt_wr u a v) = ztg_done u ∧ ztg_next (zt_wr u a v) = ztg_next u ∧ ztg_amiss (zt_wr u a v) = ztg_amiss u ∧ ztg_unknown (zt_wr u a v) = ztg_unknown u := ⟨rfl, rfl, rfl, rfl, rfl, rfl, rfl, rfl, rfl, rfl, rfl, rfl, rfl⟩
theorem zt_P_write (u : Zts) (a v : Int32) : ztg_thrown (zt_write u a v) = ztg_thrown u ∧ ztg_bytes (zt_write u a v) = ztg_bytes u ∧ ztg_pc (zt_write u a v) = ztg_pc u ∧ ztg_sp (zt_write u a v) = ztg_sp u ∧ ztg_lv (zt_write u a v) = ztg_lv u ∧ ztg_cpp (zt_write u a v) = ztg_cpp u ∧ ztg_top (zt_write u a v) = ztg_top u ∧ ztg_state (zt_write u a v) = ztg_state u ∧ ztg_cycles (zt_write u a v) = ztg_cycles u ∧ ztg_done (zt_write u a v) = ztg_done u ∧ ztg_next (zt_write u a v) = ztg_next u ∧ ztg_unknown (zt_write u a v) = ztg_unknown u := by
  rw [zt_write_eq]
  by_cases h : zt_isWord a = 0
  · rw [if_pos h]; exact ⟨rfl, rfl, rfl, rfl, rfl, rfl, rfl, rfl, rfl, rfl, rfl, rfl⟩
  · rw [if_neg h]; simp only [zt_P_wr, zt_S_amiss, and_self]

theorem zisW (x : Int32) : zt_isWord x = zx_isWord x := congrFun (show zt_isWord = zx_isWord from rfl) x
abbrev zinB (a : Int32) : Prop := ¬ a < 0 ∧ ¬ 512 ≤ a
theorem zt_A_read (u : Zts) (a : Int32) : (ztg_amiss (zt_read u a).2 = 0) ↔ (ztg_amiss u = 0 ∧ ¬ zx_isWord a = 0) := by
  unfold zt_read
  simp only [zisW]
  by_cases h1 : ztg_amiss u = 0 <;> by_cases h2 : zx_isWord a = 0 <;> simp only [h1, h2, ↓reduceIte, zt_S_amiss, z10, not_true_eq_false, not_false_eq_true, and_self, and_false, false_and, true_and, and_true]
theorem zt_V_read (u : Zts) (a : Int32) : (zt_read u a).1 = if zx_isWord a = 0 then 0 else ztg_words u a.toNatClampNeg := by
  unfold zt_read
  simp only [zisW]
  by_cases h1 : ztg_amiss u = 0 <;> by_cases h2 : zx_isWord a = 0 <;> simp only [h1, h2, ↓reduceIte, zt_S_amiss]
theorem zt_A_write (u : Zts) (a v : Int32) : (ztg_amiss (zt_write u a v) = 0) ↔ (ztg_amiss u = 0 ∧ ¬ zx_isWord a = 0) := by
  rw [zt_write_eq]
  simp only [zisW]
  by_cases h1 : ztg_amiss u = 0 <;> by_cases h2 : zx_isWord a = 0 <;> simp only [h1, h2, ↓reduceIte, zt_S_amiss, zt_P_wr, z10, not_true_eq_false, not_false_eq_true, and_self, and_false, false_and, true_and, and_true]
theorem zt_W_write (u : Zts) (a v : Int32) : ztg_words (zt_write u a v) = if zx_isWord a = 0 then ztg_words u else upd (ztg_words u) a.toNatClampNeg v := by
  rw [zt_write_eq]
  by_cases h2 : zx_isWord a = 0
  · rw [if_pos h2, if_pos (show zt_isWord a = 0 from h2)]; rfl
  · rw [if_neg h2, if_neg (show ¬ zt_isWord a = 0 from h2)]; rfl
theorem zt_A_byteAt (u : Zts) (a : Int32) : (ztg_amiss (zt_byteAt u a).2 = 0) ↔ (ztg_amiss u = 0 ∧ zinB a) := by
  unfold zt_byteAt zinB
  by_cases h1 : ztg_amiss u = 0 <;> by_cases h2 : a < 0 <;> by_cases h3 : 512 ≤ a <;> simp only [h1, h2, h3, ↓reduceIte, zt_S_amiss, z10, not_true_eq_false, not_false_eq_true, and_self, and_false, false_and, true_and, and_true]
theorem zt_V_byteAt (u : Zts) (a : Int32) : (zt_byteAt u a).1 = if zinB a then ztg_bytes u a.toNatClampNeg else 0 := by
  unfold zt_byteAt zinB
  by_cases h1 : ztg_amiss u = 0 <;> by_cases h2 : a < 0 <;> by_cases h3 : 512 ≤ a <;> simp only [h1, h2, h3, ↓reduceIte, zt_S_amiss, not_true_eq_false, not_false_eq_true, and_self, and_false, false_and, true_and, and_true]
theorem zt_A_pair (u : Zts) (a : Int32) : (ztg_amiss (zt_pair u a).2 = 0) ↔ (ztg_amiss u = 0 ∧ zinB a ∧ zinB (a + 1)) := by
  unfold zt_pair
  simp only [zt_A_byteAt, and_assoc]
theorem zt_V_pair {u : Zts} {a : Int32} (h1 : zinB a) (h2 : zinB (a + 1)) : (zt_pair u a).1 = ztg_bytes u a.toNatClampNeg * 256 + ztg_bytes u (a + 1).toNatClampNeg := by
  unfold zt_pair
  simp only [zt_V_byteAt, zt_P_byteAt, if_pos h1, if_pos h2]
theorem zinB_nI {j : Nat} (h : j < 2 ^ 31) : zinB (nI j) ↔ j < 512 := by
  unfold zinB
  constructor
  · intro g
    exact Nat.lt_of_not_le (fun q => g.2 (nI_le (a := 512) q h))
  · intro g
    exact ⟨nI_pos h, nI_ge (a := j) (b := 512) g (by decide)⟩
theorem zadd11 (p : Int32) : p + 1 + 1 = p + 2 := by rw [Int32.add_assoc]; rfl
theorem zadd21 (p : Int32) : p + 2 + 1 = p + 3 := by rw [Int32.add_assoc]; rfl
/-- so many bytes are there, one by one -/
theorem zaB (p : Int32) (n : Nat) (h1 : 1 ≤ n) (h4 : n ≤ 4) : (zx_areBytes p (nI n) = 0) ↔ ¬ (zinB p ∧ zinB (p + nI (n - 1))) := by
  unfold zx_areBytes
  by_cases a : p < 0
  · rw [if_pos a]
    exact ⟨fun _ g => g.1.1 a, fun _ => rfl⟩
  rw [if_neg a]
  obtain ⟨q, hq, rfl⟩ := nI_of a
  have e : (512 : Int32) - nI n = nI (512 - n) := pk_sub (a := 512) (by omega)
  rw [e]
  by_cases b : nI (512 - n) < nI q
  · rw [if_pos b]
    have b' := (nI_ltI (by omega) hq).mp b
    refine ⟨fun _ g => ?_, fun _ => rfl⟩
    have g1 := (zinB_nI hq).mp g.1
    rw [nI_add] at g
    have g2 := (zinB_nI (by omega)).mp g.2
    omega
  · rw [if_neg b]
    have b' : q ≤ 512 - n := Nat.le_of_not_lt (fun g => b (nI_lt g hq))
    refine ⟨fun g => absurd g (by decide), fun g => absurd ⟨(zinB_nI hq).mpr (by omega), ?_⟩ g⟩
    rw [nI_add]
    exact (zinB_nI (by omega)).mpr (by omega)
theorem zaB1 (p : Int32) : (zx_areBytes p 1 = 0) ↔ ¬ zinB p := by
  have h := zaB p 1 (by decide) (by decide)
  rw [show nI (1 - 1) = 0 from rfl, Int32.add_zero, and_self] at h
  exact h
theorem zaB2 (p : Int32) : (zx_areBytes p 2 = 0) ↔ ¬ (zinB p ∧ zinB (p + 1)) := zaB p 2 (by decide) (by decide)
theorem zaB3 (p : Int32) : (zx_areBytes p 3 = 0) ↔ ¬ (zinB p ∧ zinB (p + 2)) := zaB p 3 (by decide) (by decide)
theorem zaB4 (p : Int32) : (zx_areBytes p 4 = 0) ↔ ¬ (zinB p ∧ zinB (p + 3)) := zaB p 4 (by decide) (by decide)
/-- between two bytes that are there all are there -/
theorem zmid {p : Int32} {n j : Nat} (hn : n ≤ 4) (hj : j ≤ n) (h1 : zinB p) (h2 : zinB (p + nI n)) : zinB (p + nI j) := by
  obtain ⟨q, hq, rfl⟩ := nI_of h1.1
  have g1 := (zinB_nI hq).mp h1
  rw [nI_add] at h2 ⊢
  have g2 := (zinB_nI (by omega)).mp h2
  exact (zinB_nI (by omega)).mpr (by omega)

/-! ===== Int32 by its bits: bt x i ===== -/
def bt (x : Int32) (i : Nat) : Bool := x.toBitVec.getLsbD i
theorem b_ext {x y : Int32} (h : ∀ i, i < 32 → bt x i = bt y i) : x = y := Int32.toBitVec_inj.mp (BitVec.eq_of_getLsbD_eq (fun i hi => h i hi))
theorem b_or (x y : Int32) (i : Nat) : bt (x ||| y) i = (bt x i || bt y i) := by unfold bt; rw [Int32.toBitVec_or, BitVec.getLsbD_or]
theorem b_and (x y : Int32) (i : Nat) : bt (x &&& y) i = (bt x i && bt y i) := by unfold bt; rw [Int32.toBitVec_and, BitVec.getLsbD_and]
theorem b_xor (x y : Int32) (i : Nat) : bt (x ^^^ y) i = (bt x i ^^ bt y i) := by unfold bt; rw [Int32.toBitVec_xor, BitVec.getLsbD_xor]
theorem b_big {x : Int32} {i : Nat} (h : 32 ≤ i) : bt x i = false := BitVec.getLsbD_of_ge _ _ h
theorem b_255 (i : Nat) : bt 255 i = decide (i < 8) := by
  rcases Nat.lt_or_ge i 32 with h | h
  · exact (by decide +kernel : ∀ i, i < 32 → bt 255 i = decide (i < 8)) i h
  · rw [b_big h, decide_eq_false (by omega)]
theorem b_65535 (i : Nat) : bt 65535 i = decide (i < 16) := by
  rcases Nat.lt_or_ge i 32 with h | h
  · exact (by decide +kernel : ∀ i, i < 32 → bt 65535 i = decide (i < 16)) i h
  · rw [b_big h, decide_eq_false (by omega)]
theorem b_m1 : ∀ i, i < 32 → bt (-1) i = true := by decide +kernel
theorem b_0 (i : Nat) : bt 0 i = false := BitVec.getLsbD_zero
theorem s_l : ∀ n, n < 32 → ((nI n &&& 31).toBitVec.smod 32).toNat = n := by decide +kernel
theorem s_u : ∀ n, n < 32 → (((nI n).toUInt32 &&& Int32.toUInt32 31).toBitVec % 32).toNat = n := by decide +kernel
theorem b_shl (n : Nat) (hn : n < 32) (x : Int32) {i : Nat} (hi : i < 32) : bt (x <<< (nI n &&& 31)) i = (decide (n ≤ i) && bt x (i - n)) := by
  unfold bt
  rw [Int32.toBitVec_shiftLeft]
  show (x.toBitVec <<< ((nI n &&& 31).toBitVec.smod 32).toNat).getLsbD i = _
  rw [s_l n hn, BitVec.getLsbD_shiftLeft]
  rcases Nat.lt_or_ge i n with h | h
  · simp [h, Nat.not_le.mpr h]
  · simp [hi, h, Nat.not_lt.mpr h]
theorem b_ushr (n : Nat) (hn : n < 32) (x : Int32) (i : Nat) : bt ((x.toUInt32 >>> ((nI n).toUInt32 &&& Int32.toUInt32 31)).toInt32) i = bt x (n + i) := by
  show (x.toUInt32 >>> ((nI n).toUInt32 &&& Int32.toUInt32 31)).toBitVec.getLsbD i = x.toUInt32.toBitVec.getLsbD (n + i)
  rw [UInt32.toBitVec_shiftRight]
  show (x.toUInt32.toBitVec >>> (((nI n).toUInt32 &&& Int32.toUInt32 31).toBitVec % 32).toNat).getLsbD i = _
  rw [s_u n hn, BitVec.getLsbD_ushiftRight]
theorem b_sshr (n : Nat) (hn : n < 32) (x : Int32) {i : Nat} (hi : i < 32) : bt (x >>> (nI n &&& 31)) i = if n + i < 32 then bt x (n + i) else bt x 31 := by
  unfold bt
  rw [Int32.toBitVec_shiftRight]
  show (x.toBitVec.sshiftRight ((nI n &&& 31).toBitVec.smod 32).toNat).getLsbD i = _
  rw [s_l n hn, BitVec.getLsbD_sshiftRight, BitVec.msb_eq_getLsbD_last]
  simp [hi]
theorem b_shl8 (x : Int32) {i : Nat} (hi : i < 32) : bt (x <<< ((8 : Int32) &&& 31)) i = (decide (8 ≤ i) && bt x (i - 8)) := b_shl 8 (by omega) x hi
theorem b_shl16 (x : Int32) {i : Nat} (hi : i < 32) : bt (x <<< ((16 : Int32) &&& 31)) i = (decide (16 ≤ i) && bt x (i - 16)) := b_shl 16 (by omega) x hi
theorem b_shl24 (x : Int32) {i : Nat} (hi : i < 32) : bt (x <<< ((24 : Int32) &&& 31)) i = (decide (24 ≤ i) && bt x (i - 24)) := b_shl 24 (by omega) x hi
theorem b_sshr8 (x : Int32) {i : Nat} (hi : i < 32) : bt (x >>> ((8 : Int32) &&& 31)) i = if 8 + i < 32 then bt x (8 + i) else bt x 31 := b_sshr 8 (by omega) x hi

theorem z_shl8 (x : Int32) : (x &&& 255) * 256 = (x &&& 255) <<< ((8 : Int32) &&& 31) := by
  obtain ⟨j, hj, e⟩ := pk_andE x (m := 255) 8 rfl
  rw [e, show (256 : Int32) = nI 256 from rfl, pk_mul]
  exact (pk_shlN (n := j) ((8 : Int32) &&& 31) 8 (by decide) (by omega)).symm
theorem z_orN {a b : Nat} (ha : a < 256) (hb : b < 256) : nI (a * 256) + nI b = nI (a * 256) ||| nI b := by
  rw [nI_add]
  have h : a * 256 + b = a * 256 ||| b := by
    have := Nat.two_pow_add_eq_or_of_lt (i := 8) (b := b) (by omega) a
    rw [show (2 : Nat) ^ 8 = 256 from rfl, Nat.mul_comm] at this
    exact this
  rw [h]
  apply Int32.toBitVec_inj.1
  show BitVec.ofNat 32 (a * 256 ||| b) = BitVec.ofNat 32 (a * 256) ||| BitVec.ofNat 32 b
  apply BitVec.eq_of_getLsbD_eq
  intro i hi
  simp [hi]
/-- two bytes without sign, the higher one first -/
theorem z_pair (x y : Int32) : (x &&& 255) * 256 + (y &&& 255) = ((x &&& 255) <<< ((8 : Int32) &&& 31)) ||| (y &&& 255) := by
  rw [← z_shl8]
  obtain ⟨a, ha, e1⟩ := pk_andE x (m := 255) 8 rfl
  obtain ⟨b, hb, e2⟩ := pk_andE y (m := 255) 8 rfl
  rw [e1, e2, show (256 : Int32) = nI 256 from rfl, pk_mul]
  exact z_orN ha hb
/-- a byte's sign goes on -/
theorem z_byte {x : Int32} (h : x.toInt8.toInt32 = x) {i : Nat} (hi : 7 ≤ i) (h32 : i < 32) : bt x i = bt x 7 := by
  rw [← h]
  unfold bt
  show (x.toInt8.toBitVec.signExtend 32).getLsbD i = (x.toInt8.toBitVec.signExtend 32).getLsbD 7
  rw [BitVec.getLsbD_signExtend, BitVec.getLsbD_signExtend]
  simp only [h32, show (7 : Nat) < 32 from by decide, decide_true, Bool.true_and, show (7 : Nat) < 8 from by decide, if_true, BitVec.msb_eq_getLsbD_last]
  split
  · rw [show i = 7 by omega]
  · rfl
theorem z_s8 {x : Int32} (h : x.toInt8.toInt32 = x) : zt_signed (x &&& 255) 8 = x := by
  show ((x &&& 255) <<< ((nI 24) &&& 31)) >>> ((nI 24) &&& 31) = x
  apply b_ext
  intro i hi
  rw [b_sshr 24 (by decide) _ hi]
  split
  · rename_i g
    rw [b_shl 24 (by decide) _ (by omega), b_and, b_255, show 24 + i - 24 = i by omega]
    simp only [show 24 ≤ 24 + i by omega, show i < 8 by omega, decide_true, Bool.true_and, Bool.and_true]
  · rename_i g
    rw [b_shl 24 (by decide) _ (by decide), b_and, b_255]
    simp only [show (24 : Nat) ≤ 31 from by decide, show (31 - 24 : Nat) < 8 from by decide, decide_true, Bool.true_and, Bool.and_true]
    exact (z_byte h (i := i) (by omega) hi).symm
theorem z_s16 {x : Int32} (y : Int32) (h : x.toInt8.toInt32 = x) : zt_signed ((x &&& 255) * 256 + (y &&& 255)) 16 = (x <<< ((8 : Int32) &&& 31)) ||| (y &&& 255) := by
  rw [z_pair]
  show ((((x &&& 255) <<< ((8 : Int32) &&& 31)) ||| (y &&& 255)) <<< ((nI 16) &&& 31)) >>> ((nI 16) &&& 31) = _
  apply b_ext
  intro i hi
  rw [b_sshr 16 (by decide) _ hi, b_or, b_shl8 _ hi, b_and, b_255]
  split
  · rename_i g
    rw [b_shl 16 (by decide) _ (by omega), b_or, b_shl8 _ (by omega), b_and, b_and, b_255, b_255, show 16 + i - 16 = i by omega]
    simp only [show 16 ≤ 16 + i by omega, show i - 8 < 8 by omega, decide_true, Bool.true_and, Bool.and_true]
  · rename_i g
    rw [b_shl 16 (by decide) _ (by decide), b_or, b_shl8 _ (by decide), b_and, b_and, b_255, b_255]
    simp only [show (16 : Nat) ≤ 31 from by decide, show (8 : Nat) ≤ 31 - 16 from by decide, show (31 - 16 - 8 : Nat) < 8 from by decide, show ¬ (31 - 16 : Nat) < 8 from by decide, show 8 ≤ i by omega, show ¬ i < 8 by omega, decide_true, decide_false, Bool.true_and, Bool.and_true, Bool.and_false, Bool.or_false]
    exact (z_byte h (i := i - 8) (by omega) (by omega)).symm



/-- the class's state and the reference's are one -/
def Zrel (u : Zxs) (v : Zts) : Prop := ztg_words v = zxg_words u ∧ (ztg_bytes v = fun i => zxg_bytes u i &&& 255) ∧ ztg_pc v = zxg_pc u ∧ ztg_sp v = zxg_sp u ∧ ztg_lv v = zxg_lv u ∧ ztg_cpp v = zxg_cpp u ∧ ztg_top v = zxg_top u ∧ ztg_state v = zxg_state u ∧ ztg_cycles v = zxg_cycles u ∧ ztg_done v = zxg_instructions u
/-- every byte of the class's is a byte with sign -/
def Zbyt (u : Zxs) : Prop := ∀ i : Nat, (zxg_bytes u i).toInt8.toInt32 = zxg_bytes u i
/-- an instruction's end: done by both, or amiss for the reference and a fault for the class, or unknown and a trap -/
def ZFin (u x : Zxs) (r : Int32 × Zts) : Prop :=
  (ztg_amiss r.2 = 0 ∧ ztg_unknown r.2 = 0 ∧ zxg_words x = ztg_words r.2 ∧ zxg_bytes x = zxg_bytes u ∧ zxg_pc x = ztg_next r.2 ∧ zxg_sp x = ztg_sp r.2 ∧ zxg_lv x = ztg_lv r.2 ∧ zxg_cpp x = zxg_cpp u ∧ zxg_top x = ztg_top r.2 ∧ zxg_state x = zxg_state u ∧ zxg_cycles x = zxg_cycles u + r.1 ∧ zxg_instructions x = zxg_instructions u + 1) ∨
  (¬ ztg_amiss r.2 = 0 ∧ x = zx_fault u) ∨ (ztg_amiss r.2 = 0 ∧ ¬ ztg_unknown r.2 = 0 ∧ x = zx_trap u)
theorem Zrel.read {u : Zxs} {v : Zts} (h : Zrel u v) (a : Int32) : Zrel u (zt_read v a).2 := by unfold Zrel; simp only [zt_P_read]; exact h
theorem Zrel.byteAt {u : Zxs} {v : Zts} (h : Zrel u v) (a : Int32) : Zrel u (zt_byteAt v a).2 := by unfold Zrel; simp only [zt_P_byteAt]; exact h
theorem Zrel.pair {u : Zxs} {v : Zts} (h : Zrel u v) (a : Int32) : Zrel u (zt_pair v a).2 := by unfold Zrel; simp only [zt_P_pair]; exact h
theorem Zrel.next {u : Zxs} {v : Zts} (h : Zrel u v) (a : Int32) : Zrel u (zts_next v a) := h
theorem Zrel.unknown {u : Zxs} {v : Zts} (h : Zrel u v) (a : Int32) : Zrel u (zts_unknown v a) := h

set_option maxHeartbeats 4000000 in
theorem zo_push {u : Zxs} {v : Zts} (R : Zrel u v) (A : ztg_amiss v = 0) (N : ztg_unknown v = 0) (a b c : Int32) : ZFin u (zx_push u a b c) (zt_push v a b c) := by
  obtain ⟨Rw, Rb, Rp, Rs, Rl, Rc, Rt, Rst, Rcy, Rd⟩ := R
  unfold zx_push
  by_cases h0 : zx_isWord (zxg_sp u + 1) = 0
  · rw [if_pos h0]
    refine Or.inr (Or.inl ⟨?_, rfl⟩)
    unfold zt_push
    simp only [zt_P_read, zt_P_byteAt, zt_P_pair, zt_P_write, zt_S_sp, zt_S_top, zt_S_lv, zt_S_next, zt_S_unknown, zt_S_amiss, zt_A_read, zt_A_byteAt, zt_A_pair, zt_A_write, zt_V_read, zt_V_byteAt, zt_W_write, zadd11, zadd21, Rw, Rb, Rp, Rs, Rl, Rc, Rt, Rst, Rcy, Rd, A, N, ↓reduceIte, not_true_eq_false, not_false_eq_true, and_self, and_false, false_and, true_and, and_true, not_and, z10, z00, h0]
  rw [if_neg h0]
  refine Or.inl ⟨?_, ?_, ?_, rfl, ?_, ?_, ?_, rfl, ?_, rfl, rfl, rfl⟩
  all_goals unfold zt_push
  all_goals simp only [zt_P_read, zt_P_byteAt, zt_P_pair, zt_P_write, zt_S_sp, zt_S_top, zt_S_lv, zt_S_next, zt_S_unknown, zt_S_amiss, zt_A_read, zt_A_byteAt, zt_A_pair, zt_A_write, zt_V_read, zt_V_byteAt, zt_W_write, zadd11, zadd21, Rw, Rb, Rp, Rs, Rl, Rc, Rt, Rst, Rcy, Rd, A, N, ↓reduceIte, not_true_eq_false, not_false_eq_true, and_self, and_false, false_and, true_and, and_true, not_and, z10, z00, h0, true_and, and_true]
  all_goals first | done | rfl

set_option maxHeartbeats 4000000 in
theorem zo_store {u : Zxs} {v : Zts} (R : Zrel u v) (A : ztg_amiss v = 0) (N : ztg_unknown v = 0) (a b c : Int32) : ZFin u (zx_store u a b c) (zt_store v a b c) := by
  obtain ⟨Rw, Rb, Rp, Rs, Rl, Rc, Rt, Rst, Rcy, Rd⟩ := R
  unfold zx_store
  by_cases h0 : zx_isWord a = 0
  · rw [if_pos h0]
    refine Or.inr (Or.inl ⟨?_, rfl⟩)
    unfold zt_store
    simp only [zt_P_read, zt_P_byteAt, zt_P_pair, zt_P_write, zt_S_sp, zt_S_top, zt_S_lv, zt_S_next, zt_S_unknown, zt_S_amiss, zt_A_read, zt_A_byteAt, zt_A_pair, zt_A_write, zt_V_read, zt_V_byteAt, zt_W_write, zadd11, zadd21, Rw, Rb, Rp, Rs, Rl, Rc, Rt, Rst, Rcy, Rd, A, N, ↓reduceIte, not_true_eq_false, not_false_eq_true, and_self, and_false, false_and, true_and, and_true, not_and, z10, z00, h0]
  rw [if_neg h0]
  by_cases h1 : zx_isWord (zxg_sp u - 1) = 0
  · rw [if_pos h1]
    refine Or.inr (Or.inl ⟨?_, rfl⟩)
    unfold zt_store
    simp only [zt_P_read, zt_P_byteAt, zt_P_pair, zt_P_write, zt_S_sp, zt_S_top, zt_S_lv, zt_S_next, zt_S_unknown, zt_S_amiss, zt_A_read, zt_A_byteAt, zt_A_pair, zt_A_write, zt_V_read, zt_V_byteAt, zt_W_write, zadd11, zadd21, Rw, Rb, Rp, Rs, Rl, Rc, Rt, Rst, Rcy, Rd, A, N, ↓reduceIte, not_true_eq_false, not_false_eq_true, and_self, and_false, false_and, true_and, and_true, not_and, z10, z00, h0, h1]
  rw [if_neg h1]
  refine Or.inl ⟨?_, ?_, ?_, rfl, ?_, ?_, ?_, rfl, ?_, rfl, rfl, rfl⟩
  all_goals unfold zt_store
  all_goals simp only [zt_P_read, zt_P_byteAt, zt_P_pair, zt_P_write, zt_S_sp, zt_S_top, zt_S_lv, zt_S_next, zt_S_unknown, zt_S_amiss, zt_A_read, zt_A_byteAt, zt_A_pair, zt_A_write, zt_V_read, zt_V_byteAt, zt_W_write, zadd11, zadd21, Rw, Rb, Rp, Rs, Rl, Rc, Rt, Rst, Rcy, Rd, A, N, ↓reduceIte, not_true_eq_false, not_false_eq_true, and_self, and_false, false_and, true_and, and_true, not_and, z10, z00, h0, h1, true_and, and_true]
  all_goals first | done | rfl

set_option maxHeartbeats 4000000 in
theorem zo_swap {u : Zxs} {v : Zts} (R : Zrel u v) (A : ztg_amiss v = 0) (N : ztg_unknown v = 0) (NX : ztg_next v = zxg_pc u + 1) : ZFin u (zx_swap u) (zt_swap v) := by
  obtain ⟨Rw, Rb, Rp, Rs, Rl, Rc, Rt, Rst, Rcy, Rd⟩ := R
  unfold zx_swap
  by_cases h0 : zx_isWord (zxg_sp u) = 0
  · rw [if_pos h0]
    refine Or.inr (Or.inl ⟨?_, rfl⟩)
    unfold zt_swap
    simp only [zt_P_read, zt_P_byteAt, zt_P_pair, zt_P_write, zt_S_sp, zt_S_top, zt_S_lv, zt_S_next, zt_S_unknown, zt_S_amiss, zt_A_read, zt_A_byteAt, zt_A_pair, zt_A_write, zt_V_read, zt_V_byteAt, zt_W_write, zadd11, zadd21, NX, Rw, Rb, Rp, Rs, Rl, Rc, Rt, Rst, Rcy, Rd, A, N, ↓reduceIte, not_true_eq_false, not_false_eq_true, and_self, and_false, false_and, true_and, and_true, not_and, z10, z00, h0]
  rw [if_neg h0]
  by_cases h1 : zx_isWord (zxg_sp u - 1) = 0
  · rw [if_pos h1]
    refine Or.inr (Or.inl ⟨?_, rfl⟩)
    unfold zt_swap
    simp only [zt_P_read, zt_P_byteAt, zt_P_pair, zt_P_write, zt_S_sp, zt_S_top, zt_S_lv, zt_S_next, zt_S_unknown, zt_S_amiss, zt_A_read, zt_A_byteAt, zt_A_pair, zt_A_write, zt_V_read, zt_V_byteAt, zt_W_write, zadd11, zadd21, NX, Rw, Rb, Rp, Rs, Rl, Rc, Rt, Rst, Rcy, Rd, A, N, ↓reduceIte, not_true_eq_false, not_false_eq_true, and_self, and_false, false_and, true_and, and_true, not_and, z10, z00, h0, h1]
  rw [if_neg h1]
  refine Or.inl ⟨?_, ?_, ?_, rfl, ?_, ?_, ?_, rfl, ?_, rfl, rfl, rfl⟩
  all_goals unfold zt_swap
  all_goals simp only [zt_P_read, zt_P_byteAt, zt_P_pair, zt_P_write, zt_S_sp, zt_S_top, zt_S_lv, zt_S_next, zt_S_unknown, zt_S_amiss, zt_A_read, zt_A_byteAt, zt_A_pair, zt_A_write, zt_V_read, zt_V_byteAt, zt_W_write, zadd11, zadd21, NX, Rw, Rb, Rp, Rs, Rl, Rc, Rt, Rst, Rcy, Rd, A, N, ↓reduceIte, not_true_eq_false, not_false_eq_true, and_self, and_false, false_and, true_and, and_true, not_and, z10, z00, h0, h1, true_and, and_true]
  all_goals first | done | rfl

set_option maxHeartbeats 4000000 in
theorem zo_leave {u : Zxs} {v : Zts} (R : Zrel u v) (A : ztg_amiss v = 0) (N : ztg_unknown v = 0) : ZFin u (zx_leave u) (zt_giveBack v) := by
  obtain ⟨Rw, Rb, Rp, Rs, Rl, Rc, Rt, Rst, Rcy, Rd⟩ := R
  unfold zx_leave
  by_cases h0 : zx_isWord (zxg_lv u) = 0
  · rw [if_pos h0]
    refine Or.inr (Or.inl ⟨?_, rfl⟩)
    unfold zt_giveBack
    simp only [zt_P_read, zt_P_byteAt, zt_P_pair, zt_P_write, zt_S_sp, zt_S_top, zt_S_lv, zt_S_next, zt_S_unknown, zt_S_amiss, zt_A_read, zt_A_byteAt, zt_A_pair, zt_A_write, zt_V_read, zt_V_byteAt, zt_W_write, zadd11, zadd21, Rw, Rb, Rp, Rs, Rl, Rc, Rt, Rst, Rcy, Rd, A, N, ↓reduceIte, not_true_eq_false, not_false_eq_true, and_self, and_false, false_and, true_and, and_true, not_and, z10, z00, h0]
  rw [if_neg h0]
  by_cases h1 : zx_isWord (zxg_words u (zxg_lv u).toNatClampNeg) = 0
  · rw [if_pos h1]
    refine Or.inr (Or.inl ⟨?_, rfl⟩)
    unfold zt_giveBack
    simp only [zt_P_read, zt_P_byteAt, zt_P_pair, zt_P_write, zt_S_sp, zt_S_top, zt_S_lv, zt_S_next, zt_S_unknown, zt_S_amiss, zt_A_read, zt_A_byteAt, zt_A_pair, zt_A_write, zt_V_read, zt_V_byteAt, zt_W_write, zadd11, zadd21, Rw, Rb, Rp, Rs, Rl, Rc, Rt, Rst, Rcy, Rd, A, N, ↓reduceIte, not_true_eq_false, not_false_eq_true, and_self, and_false, false_and, true_and, and_true, not_and, z10, z00, h0, h1]
  rw [if_neg h1]
  by_cases h2 : zx_isWord (zxg_words u (zxg_lv u).toNatClampNeg + 1) = 0
  · rw [if_pos h2]
    refine Or.inr (Or.inl ⟨?_, rfl⟩)
    unfold zt_giveBack
    simp only [zt_P_read, zt_P_byteAt, zt_P_pair, zt_P_write, zt_S_sp, zt_S_top, zt_S_lv, zt_S_next, zt_S_unknown, zt_S_amiss, zt_A_read, zt_A_byteAt, zt_A_pair, zt_A_write, zt_V_read, zt_V_byteAt, zt_W_write, zadd11, zadd21, Rw, Rb, Rp, Rs, Rl, Rc, Rt, Rst, Rcy, Rd, A, N, ↓reduceIte, not_true_eq_false, not_false_eq_true, and_self, and_false, false_and, true_and, and_true, not_and, z10, z00, h0, h1, h2]
  rw [if_neg h2]
  refine Or.inl ⟨?_, ?_, ?_, rfl, ?_, ?_, ?_, rfl, ?_, rfl, rfl, rfl⟩
  all_goals unfold zt_giveBack
  all_goals simp only [zt_P_read, zt_P_byteAt, zt_P_pair, zt_P_write, zt_S_sp, zt_S_top, zt_S_lv, zt_S_next, zt_S_unknown, zt_S_amiss, zt_A_read, zt_A_byteAt, zt_A_pair, zt_A_write, zt_V_read, zt_V_byteAt, zt_W_write, zadd11, zadd21, Rw, Rb, Rp, Rs, Rl, Rc, Rt, Rst, Rcy, Rd, A, N, ↓reduceIte, not_true_eq_false, not_false_eq_true, and_self, and_false, false_and, true_and, and_true, not_and, z10, z00, h0, h1, h2, true_and, and_true]
  all_goals first | done | rfl


def zlR_word : List Cond := [.methodLink RL 7 yX0_word, .instanceMethod yX0_word, .selects RX0 yX0_word yX0_word, .code yX0_word cX0_word 3 none, .classLink RL 13 "java/lang/IndexOutOfBoundsException"]
theorem zlR_word_in : ∀ w ∈ zlR_word ++ zwX, w ∈ lw_tbl := List.forall_mem_append.mpr ⟨List.forall_mem_cons.mpr ⟨zT1 (i := 65) rfl, List.forall_mem_cons.mpr ⟨zT1 (i := 66) rfl, List.forall_mem_cons.mpr ⟨zT1 (i := 67) rfl, List.forall_mem_cons.mpr ⟨zT1 (i := 68) rfl, List.forall_mem_cons.mpr ⟨zT1 (i := 64) rfl, fun _ h => absurd h List.not_mem_nil⟩⟩⟩⟩⟩, zwX_in⟩
theorem zlR_word_good : ∀ w ∈ zlR_word ++ zwX, goodWord w = true := List.forall_mem_append.mpr ⟨fun w h => List.all_eq_true.mp (show (zlR_word).all goodWord = true by decide +kernel) w h, zwX_good⟩
set_option maxHeartbeats 4000000 in
set_option maxRecDepth 100000 in
theorem zlM_word (l : Launch) (hst : l.stackTraces = false) (k : Zxk) (Dk : ZxD k) {aJ : Nat} {cJ : ClassId} (hJ : ¬ ZxA k aJ) (f : Nat → Int64) (u : Zxs) (a1 a2 : Int32) : Met l yL_word (.codeWith yL_word cL_word 4 (some .int) [(0, 6, 9, 13)] :: (zlR_word ++ zwX)) zrL (ZlB k aJ cJ f [.ref (zxa_this k), .int a1, .int a2] u) (ZlQ k aJ cJ (zl_word u f a1 a2)) 1 6 (ZlA k aJ) := by
  refine zl_enter (by decide) rfl (Nat.le_of_ble_eq_true rfl) ?_
  intro p e s m below meth c ls S htb hr hlk hB hl
  obtain ⟨⟨⟨-, hP, hK⟩, hE⟩, hPJ, hKJ⟩ := hB
  have hx := S.1
  have hb := S.2.1
  have hl : lv_has ls 4 [(0, .ref (zxa_this k)), (1, .int a1), (2, .int a2)] := hl
  have hS : va_S (ZlA k aJ) s.heap s.heap [] := va_S.rf
  refine lv_aload_n hx hb dL_word_0 rfl (lv_at hl 0 rfl) ?_
  refine lv_iload_n hx hb dL_word_1 rfl (lv_at hl 1 rfl) ?_
  refine lv_iload_n hx hb dL_word_2 rfl (lv_at hl 2 rfl) ?_
  by_cases hok : zx_isWord a1 = 0
  · refine zl_throw (As := [.int a1, .int a2]) (rest := []) S hK hE (zxT_word l hst k Dk u a1 a2 hok) (zl_cw (n := 2) (rm := zrmX) S (fun w h => ⟨List.mem_append_right _ h, zwX_good _ h⟩) (List.mem_append_left _ (List.mem_of_getElem? (i := 3) rfl)) rfl rfl (List.mem_append_right _ (zwX_step wsX0_step_init)) (List.mem_append_left _ (List.mem_of_getElem? (i := 0) rfl)) (List.mem_append_left _ (List.mem_of_getElem? (i := 1) rfl)) (List.mem_append_left _ (List.mem_of_getElem? (i := 2) rfl)) (by decide +kernel) (by decide)) hP hPJ hl.1 (Nat.le_of_ble_eq_true rfl) rfl dL_word_3 (by decide) [] ⟨0, 6, 9, 13⟩ [] htb (fun _ h => by cases h) (by decide) (by decide) (S.2.2.2.2 _ (List.mem_append_left _ (List.mem_of_getElem? (i := 4) rfl))) hE.2.1.1 (fun q H hP hPJ hS => ?_)
    refine lv_astore_n (lv' := [(3, .ref q), (0, .ref (zxa_this k)), (1, .int a1), (2, .int a2)]) hx hb dL_word_9 rfl hl (by decide) rfl (fun ls hl => ?_)
    refine lv_iconst (v := 1) hx hb dL_word_10 (by decide) ?_
    exact zl_ret hx hb hr hlk hP hPJ hS (by unfold zl_word; rw [if_pos hok]) (by decide) (by decide) dL_word_11
  · refine zx_callF (As := [.int a1, .int a2]) (rest := []) (A0 := ZlA k aJ) S hK (zxM_word l k Dk u a1 a2 hok) (zl_cw (n := 2) (rm := zrm 1) S (fun w h => ⟨List.mem_append_right _ (zwX_step h), zwX_good _ (zwX_step h)⟩) (List.mem_append_left _ (List.mem_of_getElem? (i := 3) rfl)) rfl rfl (List.mem_append_right _ (zwX_step wsX0_step_init)) (List.mem_append_left _ (List.mem_of_getElem? (i := 0) rfl)) (List.mem_append_left _ (List.mem_of_getElem? (i := 1) rfl)) (List.mem_append_left _ (List.mem_of_getElem? (i := 2) rfl)) (by decide +kernel) (by decide)) hP (fun _ h => Or.inl h) hS hl.1 (Nat.le_of_ble_eq_true rfl) rfl dL_word_3 (by decide) (fun H locs hP _ hk hS => ?_)
    have hPJ := zJ_kept hJ hPJ hk
    refine lv_goto (tgt := 12) hx hb dL_word_6 (by decide) ?_
    refine lv_iconst (v := 0) hx hb dL_word_12 (by decide) ?_
    exact zl_ret hx hb hr hlk hP hPJ hS (by unfold zl_word; rw [if_neg hok]) (by decide) (by decide) dL_word_13
def zlR_code : List Cond := [.methodLink RL 15 yX0_code, .instanceMethod yX0_code, .selects RX0 yX0_code yX0_code, .code yX0_code cX0_code 3 none, .classLink RL 13 "java/lang/IndexOutOfBoundsException"]
theorem zlR_code_in : ∀ w ∈ zlR_code ++ zwX, w ∈ lw_tbl := List.forall_mem_append.mpr ⟨List.forall_mem_cons.mpr ⟨zT1 (i := 139) rfl, List.forall_mem_cons.mpr ⟨zT1 (i := 140) rfl, List.forall_mem_cons.mpr ⟨zT1 (i := 141) rfl, List.forall_mem_cons.mpr ⟨zT1 (i := 142) rfl, List.forall_mem_cons.mpr ⟨zT1 (i := 64) rfl, fun _ h => absurd h List.not_mem_nil⟩⟩⟩⟩⟩, zwX_in⟩
theorem zlR_code_good : ∀ w ∈ zlR_code ++ zwX, goodWord w = true := List.forall_mem_append.mpr ⟨fun w h => List.all_eq_true.mp (show (zlR_code).all goodWord = true by decide +kernel) w h, zwX_good⟩
set_option maxHeartbeats 4000000 in
set_option maxRecDepth 100000 in
theorem zlM_code (l : Launch) (hst : l.stackTraces = false) (k : Zxk) (Dk : ZxD k) {aJ : Nat} {cJ : ClassId} (hJ : ¬ ZxA k aJ) (f : Nat → Int64) (u : Zxs) (a1 a2 : Int32) : Met l yL_code (.codeWith yL_code cL_code 4 (some .int) [(0, 6, 9, 13)] :: (zlR_code ++ zwX)) zrL (ZlB k aJ cJ f [.ref (zxa_this k), .int a1, .int a2] u) (ZlQ k aJ cJ (zl_code u f a1 a2)) 1 6 (ZlA k aJ) := by
  refine zl_enter (by decide) rfl (Nat.le_of_ble_eq_true rfl) ?_
  intro p e s m below meth c ls S htb hr hlk hB hl
  obtain ⟨⟨⟨-, hP, hK⟩, hE⟩, hPJ, hKJ⟩ := hB
  have hx := S.1
  have hb := S.2.1
  have hl : lv_has ls 4 [(0, .ref (zxa_this k)), (1, .int a1), (2, .int a2)] := hl
  have hS : va_S (ZlA k aJ) s.heap s.heap [] := va_S.rf
  refine lv_aload_n hx hb dL_code_0 rfl (lv_at hl 0 rfl) ?_
  refine lv_iload_n hx hb dL_code_1 rfl (lv_at hl 1 rfl) ?_
  refine lv_iload_n hx hb dL_code_2 rfl (lv_at hl 2 rfl) ?_
  by_cases hok : zx_areBytes a1 4 = 0
  · refine zl_throw (As := [.int a1, .int a2]) (rest := []) S hK hE (zxT_code l hst k Dk u a1 a2 hok) (zl_cw (n := 2) (rm := zrmX) S (fun w h => ⟨List.mem_append_right _ h, zwX_good _ h⟩) (List.mem_append_left _ (List.mem_of_getElem? (i := 3) rfl)) rfl rfl (List.mem_append_right _ (zwX_step wsX0_step_init)) (List.mem_append_left _ (List.mem_of_getElem? (i := 0) rfl)) (List.mem_append_left _ (List.mem_of_getElem? (i := 1) rfl)) (List.mem_append_left _ (List.mem_of_getElem? (i := 2) rfl)) (by decide +kernel) (by decide)) hP hPJ hl.1 (Nat.le_of_ble_eq_true rfl) rfl dL_code_3 (by decide) [] ⟨0, 6, 9, 13⟩ [] htb (fun _ h => by cases h) (by decide) (by decide) (S.2.2.2.2 _ (List.mem_append_left _ (List.mem_of_getElem? (i := 4) rfl))) hE.2.1.1 (fun q H hP hPJ hS => ?_)
    refine lv_astore_n (lv' := [(3, .ref q), (0, .ref (zxa_this k)), (1, .int a1), (2, .int a2)]) hx hb dL_code_9 rfl hl (by decide) rfl (fun ls hl => ?_)
    refine lv_iconst (v := 1) hx hb dL_code_10 (by decide) ?_
    exact zl_ret hx hb hr hlk hP hPJ hS (by unfold zl_code; rw [if_pos hok]) (by decide) (by decide) dL_code_11
  · refine zx_callF (As := [.int a1, .int a2]) (rest := []) (A0 := ZlA k aJ) S hK (zxM_code l k Dk u a1 a2 hok) (zl_cw (n := 2) (rm := zrm 1) S (fun w h => ⟨List.mem_append_right _ (zwX_step h), zwX_good _ (zwX_step h)⟩) (List.mem_append_left _ (List.mem_of_getElem? (i := 3) rfl)) rfl rfl (List.mem_append_right _ (zwX_step wsX0_step_init)) (List.mem_append_left _ (List.mem_of_getElem? (i := 0) rfl)) (List.mem_append_left _ (List.mem_of_getElem? (i := 1) rfl)) (List.mem_append_left _ (List.mem_of_getElem? (i := 2) rfl)) (by decide +kernel) (by decide)) hP (fun _ h => Or.inl h) hS hl.1 (Nat.le_of_ble_eq_true rfl) rfl dL_code_3 (by decide) (fun H locs hP _ hk hS => ?_)
    have hPJ := zJ_kept hJ hPJ hk
    refine lv_goto (tgt := 12) hx hb dL_code_6 (by decide) ?_
    refine lv_iconst (v := 0) hx hb dL_code_12 (by decide) ?_
    exact zl_ret hx hb hr hlk hP hPJ hS (by unfold zl_code; rw [if_neg hok]) (by decide) (by decide) dL_code_13
def zlR_run : List Cond := [.methodLink RL 18 yX0_run, .instanceMethod yX0_run, .selects RX0 yX0_run yX0_run, .code yX0_run cX0_run 4 (some .int), .classLink RL 22 "java/lang/IllegalArgumentException", .classLink RL 24 "java/lang/IllegalStateException"] ++ zxR
theorem zlR_run_in : ∀ w ∈ zlR_run ++ zwX, w ∈ lw_tbl := List.forall_mem_append.mpr ⟨List.forall_mem_append.mpr ⟨List.forall_mem_cons.mpr ⟨zT1 (i := 152) rfl, List.forall_mem_cons.mpr ⟨zT1 (i := 153) rfl, List.forall_mem_cons.mpr ⟨zT1 (i := 154) rfl, List.forall_mem_cons.mpr ⟨zT1 (i := 155) rfl, List.forall_mem_cons.mpr ⟨zT1 (i := 150) rfl, List.forall_mem_cons.mpr ⟨zT1 (i := 151) rfl, fun _ h => absurd h List.not_mem_nil⟩⟩⟩⟩⟩⟩, zxR_in⟩, zwX_in⟩
theorem zlR_run_good : ∀ w ∈ zlR_run ++ zwX, goodWord w = true := List.forall_mem_append.mpr ⟨fun w h => List.all_eq_true.mp (show (zlR_run).all goodWord = true by decide +kernel) w h, zwX_good⟩
set_option maxHeartbeats 4000000 in
set_option maxRecDepth 100000 in
theorem zlM_run (l : Launch) (hst : l.stackTraces = false) (k : Zxk) (Dk : ZxD k) {aJ : Nat} {cJ : ClassId} (hJ : ¬ ZxA k aJ) (f : Nat → Int64) (u : Zxs) (a1 : Int32) : Met l yL_run (.codeWith yL_run cL_run 4 (some .int) [(0, 9, 12, 22), (0, 9, 15, 24)] :: (zlR_run ++ zwX)) zrL (ZlB k aJ cJ f [.ref (zxa_this k), .int a1, .ref aJ] u) (ZlQ k aJ cJ (zl_run u f a1)) 1 6 (ZlA k aJ) := by
  refine zl_enter (by decide) rfl (Nat.le_of_ble_eq_true rfl) ?_
  intro p e s m below meth c ls S htb hr hlk hB hl
  obtain ⟨⟨⟨-, hP, hK⟩, hE⟩, hPJ, hKJ⟩ := hB
  have hx := S.1
  have hb := S.2.1
  have hl : lv_has ls 4 [(0, .ref (zxa_this k)), (1, .int a1), (2, .ref aJ)] := hl
  have hS : va_S (ZlA k aJ) s.heap s.heap [] := va_S.rf
  refine lv_aload_n hx hb dL_run_0 rfl (lv_at hl 2 rfl) ?_
  refine lv_iconst (v := 0) hx hb dL_run_1 (by decide) ?_
  refine lv_aload_n hx hb dL_run_2 rfl (lv_at hl 0 rfl) ?_
  refine lv_iload_n hx hb dL_run_3 rfl (lv_at hl 1 rfl) ?_
  by_cases hbad : a1 < 0 ∨ 1000 < a1
  · refine zl_throw (As := [.int a1]) (rest := [.int 0, .ref aJ]) S hK hE (zxT_runA l hst k Dk u a1 hbad) (zl_cw (n := 1) (rm := zrmX) S (fun w h => ⟨List.mem_append_right _ h, zwX_good _ h⟩) (List.mem_append_left _ (List.mem_append_left _ (List.mem_of_getElem? (i := 3) rfl))) rfl rfl (List.mem_append_right _ (zwX_step wsX0_step_init)) (List.mem_append_left _ (List.mem_append_left _ (List.mem_of_getElem? (i := 0) rfl))) (List.mem_append_left _ (List.mem_append_left _ (List.mem_of_getElem? (i := 1) rfl))) (List.mem_append_left _ (List.mem_append_left _ (List.mem_of_getElem? (i := 2) rfl))) (by decide +kernel) (by decide)) hP hPJ hl.1 (Nat.le_of_ble_eq_true rfl) rfl dL_run_4 (by decide) [] ⟨0, 9, 12, 22⟩ [⟨0, 9, 15, 24⟩] htb (fun _ h => by cases h) (by decide) (by decide) (S.2.2.2.2 _ (List.mem_append_left _ (List.mem_append_left _ (List.mem_of_getElem? (i := 4) rfl)))) hE.2.1.2.1 (fun q H hP hPJ hS => ?_)
    refine lv_astore_n (lv' := [(3, .ref q), (0, .ref (zxa_this k)), (1, .int a1), (2, .ref aJ)]) hx hb dL_run_12 rfl hl (by decide) rfl (fun ls hl => ?_)
    refine lv_iconst (v := 1) hx hb dL_run_13 (by decide) ?_
    exact zl_ret hx hb hr hlk hP hPJ hS (by unfold zl_run; rw [if_pos hbad]) (by decide) (by decide) dL_run_14
  have h1 : ¬ a1 < 0 := fun q => hbad (Or.inl q)
  have h2 : a1 ≤ 1000 := Int32.not_lt.mp (fun q => hbad (Or.inr q))
  by_cases h3 : zxg_state u = 0
  · refine zx_callF (As := [.int a1]) (rest := [.int 0, .ref aJ]) (A0 := ZlA k aJ) S hK (zxM_run l k Dk u a1 h1 h2 h3) (zl_cw (n := 1) (rm := zrm 6) S (fun w h => (List.mem_append.mp h).elim (fun h => ⟨List.mem_append_left _ (List.mem_append_right _ h), zlR_run_good _ (List.mem_append_left _ (List.mem_append_right _ h))⟩) (fun h => ⟨List.mem_append_right _ (zwX_step h), zwX_good _ (zwX_step h)⟩)) (List.mem_append_left _ (List.mem_append_left _ (List.mem_of_getElem? (i := 3) rfl))) rfl rfl (List.mem_append_right _ (zwX_step wsX0_step_init)) (List.mem_append_left _ (List.mem_append_left _ (List.mem_of_getElem? (i := 0) rfl))) (List.mem_append_left _ (List.mem_append_left _ (List.mem_of_getElem? (i := 1) rfl))) (List.mem_append_left _ (List.mem_append_left _ (List.mem_of_getElem? (i := 2) rfl))) (by decide +kernel) (by decide)) hP (fun _ h => Or.inl h) hS hl.1 (Nat.le_of_ble_eq_true rfl) rfl dL_run_4 (by decide) (fun H locs hP _ hk hS => ?_)
    have hPJ := zJ_kept hJ hPJ hk
    refine zl_store hx hb hKJ Dk hJ hP hPJ hS dL_run_7 dL_run_8 (fun H locs hP hPJ hS => ?_)
    refine lv_goto (tgt := 18) hx hb dL_run_9 (by decide) ?_
    refine lv_iconst (v := 0) hx hb dL_run_18 (by decide) ?_
    exact zl_ret hx hb hr hlk hP hPJ hS (by unfold zl_run; rw [if_neg hbad, if_pos h3]) (by decide) (by decide) dL_run_19
  · refine zl_throw (As := [.int a1]) (rest := [.int 0, .ref aJ]) S hK hE (zxT_runS l hst k Dk u a1 h1 h2 h3) (zl_cw (n := 1) (rm := zrmX) S (fun w h => ⟨List.mem_append_right _ h, zwX_good _ h⟩) (List.mem_append_left _ (List.mem_append_left _ (List.mem_of_getElem? (i := 3) rfl))) rfl rfl (List.mem_append_right _ (zwX_step wsX0_step_init)) (List.mem_append_left _ (List.mem_append_left _ (List.mem_of_getElem? (i := 0) rfl))) (List.mem_append_left _ (List.mem_append_left _ (List.mem_of_getElem? (i := 1) rfl))) (List.mem_append_left _ (List.mem_append_left _ (List.mem_of_getElem? (i := 2) rfl))) (by decide +kernel) (by decide)) hP hPJ hl.1 (Nat.le_of_ble_eq_true rfl) rfl dL_run_4 (by decide) [⟨0, 9, 12, 22⟩] ⟨0, 9, 15, 24⟩ [] htb (fun z h => Or.inr (by rw [List.mem_singleton.mp h]; exact ⟨by decide, "java/lang/IllegalArgumentException", S.2.2.2.2 _ (List.mem_append_left _ (List.mem_append_left _ (List.mem_of_getElem? (i := 4) rfl))), hE.2.2.1⟩)) (by decide) (by decide) (S.2.2.2.2 _ (List.mem_append_left _ (List.mem_append_left _ (List.mem_of_getElem? (i := 5) rfl)))) hE.2.1.2.2.1 (fun q H hP hPJ hS => ?_)
    refine lv_astore_n (lv' := [(3, .ref q), (0, .ref (zxa_this k)), (1, .int a1), (2, .ref aJ)]) hx hb dL_run_15 rfl hl (by decide) rfl (fun ls hl => ?_)
    refine lv_iconst (v := 2) hx hb dL_run_16 (by decide) ?_
    exact zl_ret hx hb hr hlk hP hPJ hS (by unfold zl_run; rw [if_neg hbad, if_neg h3]) (by decide) (by decide) dL_run_17
def zlR_register : List Cond := [.methodLink RL 26 yX0_register, .instanceMethod yX0_register, .selects RX0 yX0_register yX0_register, .code yX0_register cX0_register 2 (some .int), .classLink RL 22 "java/lang/IllegalArgumentException"]
theorem zlR_register_in : ∀ w ∈ zlR_register ++ zwX, w ∈ lw_tbl := List.forall_mem_append.mpr ⟨List.forall_mem_cons.mpr ⟨zT2 (i := 58) rfl, List.forall_mem_cons.mpr ⟨zT2 (i := 59) rfl, List.forall_mem_cons.mpr ⟨zT2 (i := 60) rfl, List.forall_mem_cons.mpr ⟨zT2 (i := 61) rfl, List.forall_mem_cons.mpr ⟨zT1 (i := 150) rfl, fun _ h => absurd h List.not_mem_nil⟩⟩⟩⟩⟩, zwX_in⟩
theorem zlR_register_good : ∀ w ∈ zlR_register ++ zwX, goodWord w = true := List.forall_mem_append.mpr ⟨fun w h => List.all_eq_true.mp (show (zlR_register).all goodWord = true by decide +kernel) w h, zwX_good⟩
set_option maxHeartbeats 4000000 in
set_option maxRecDepth 100000 in
theorem zlM_register (l : Launch) (hst : l.stackTraces = false) (k : Zxk) (Dk : ZxD k) {aJ : Nat} {cJ : ClassId} (hJ : ¬ ZxA k aJ) (f : Nat → Int64) (u : Zxs) (a1 : Int32) : Met l yL_register (.codeWith yL_register cL_register 4 (some .int) [(0, 9, 12, 22)] :: (zlR_register ++ zwX)) zrL (ZlB k aJ cJ f [.ref (zxa_this k), .int a1, .ref aJ] u) (ZlQ k aJ cJ (zl_register u f a1)) 1 6 (ZlA k aJ) := by
  refine zl_enter (by decide) rfl (Nat.le_of_ble_eq_true rfl) ?_
  intro p e s m below meth c ls S htb hr hlk hB hl
  obtain ⟨⟨⟨-, hP, hK⟩, hE⟩, hPJ, hKJ⟩ := hB
  have hx := S.1
  have hb := S.2.1
  have hl : lv_has ls 4 [(0, .ref (zxa_this k)), (1, .int a1), (2, .ref aJ)] := hl
  have hS : va_S (ZlA k aJ) s.heap s.heap [] := va_S.rf
  refine lv_aload_n hx hb dL_register_0 rfl (lv_at hl 2 rfl) ?_
  refine lv_iconst (v := 0) hx hb dL_register_1 (by decide) ?_
  refine lv_aload_n hx hb dL_register_2 rfl (lv_at hl 0 rfl) ?_
  refine lv_iload_n hx hb dL_register_3 rfl (lv_at hl 1 rfl) ?_
  by_cases hok : a1 = 0 ∨ a1 = 1 ∨ a1 = 2 ∨ a1 = 3 ∨ a1 = 4 ∨ a1 = 5 ∨ a1 = 6 ∨ a1 = 7
  · refine zx_callFR (As := [.int a1]) (rest := [.int 0, .ref aJ]) S hK (zxM_register l k Dk u a1 hok) (zl_cw (n := 1) (rm := zrm 0) S (fun w h => ⟨List.mem_append_right _ (zwX_step h), zwX_good _ (zwX_step h)⟩) (List.mem_append_left _ (List.mem_of_getElem? (i := 3) rfl)) rfl rfl (List.mem_append_right _ (zwX_step wsX0_step_init)) (List.mem_append_left _ (List.mem_of_getElem? (i := 0) rfl)) (List.mem_append_left _ (List.mem_of_getElem? (i := 1) rfl)) (List.mem_append_left _ (List.mem_of_getElem? (i := 2) rfl)) (by decide +kernel) (by decide)) hP hl.1 (Nat.le_of_ble_eq_true rfl) rfl dL_register_4 (by decide) ?_
    refine zl_store hx hb hKJ Dk hJ hP hPJ hS dL_register_7 dL_register_8 (fun H locs hP hPJ hS => ?_)
    refine lv_goto (tgt := 15) hx hb dL_register_9 (by decide) ?_
    refine lv_iconst (v := 0) hx hb dL_register_15 (by decide) ?_
    exact zl_ret hx hb hr hlk hP hPJ hS (by unfold zl_register; rw [if_pos hok]) (by decide) (by decide) dL_register_16
  · refine zl_throw (As := [.int a1]) (rest := [.int 0, .ref aJ]) S hK hE (zxT_register l hst k Dk u a1 (fun q => hok (Or.inl q)) (fun q => hok (Or.inr (Or.inl q))) (fun q => hok (Or.inr (Or.inr (Or.inl q)))) (fun q => hok (Or.inr (Or.inr (Or.inr (Or.inl q))))) (fun q => hok (Or.inr (Or.inr (Or.inr (Or.inr (Or.inl q)))))) (fun q => hok (Or.inr (Or.inr (Or.inr (Or.inr (Or.inr (Or.inl q))))))) (fun q => hok (Or.inr (Or.inr (Or.inr (Or.inr (Or.inr (Or.inr (Or.inl q)))))))) (fun q => hok (Or.inr (Or.inr (Or.inr (Or.inr (Or.inr (Or.inr (Or.inr (q)))))))))) (zl_cw (n := 1) (rm := zrmX) S (fun w h => ⟨List.mem_append_right _ h, zwX_good _ h⟩) (List.mem_append_left _ (List.mem_of_getElem? (i := 3) rfl)) rfl rfl (List.mem_append_right _ (zwX_step wsX0_step_init)) (List.mem_append_left _ (List.mem_of_getElem? (i := 0) rfl)) (List.mem_append_left _ (List.mem_of_getElem? (i := 1) rfl)) (List.mem_append_left _ (List.mem_of_getElem? (i := 2) rfl)) (by decide +kernel) (by decide)) hP hPJ hl.1 (Nat.le_of_ble_eq_true rfl) rfl dL_register_4 (by decide) [] ⟨0, 9, 12, 22⟩ [] htb (fun _ h => by cases h) (by decide) (by decide) (S.2.2.2.2 _ (List.mem_append_left _ (List.mem_of_getElem? (i := 4) rfl))) hE.2.1.2.1 (fun q H hP hPJ hS => ?_)
    refine lv_astore_n (lv' := [(3, .ref q), (0, .ref (zxa_this k)), (1, .int a1), (2, .ref aJ)]) hx hb dL_register_12 rfl hl (by decide) rfl (fun ls hl => ?_)
    refine lv_iconst (v := 1) hx hb dL_register_13 (by decide) ?_
    exact zl_ret hx hb hr hlk hP hPJ hS (by unfold zl_register; rw [if_neg hok]) (by decide) (by decide) dL_register_14
def zlR_look : List Cond := [.methodLink RL 29 yX0_look, .instanceMethod yX0_look, .selects RX0 yX0_look yX0_look, .code yX0_look cX0_look 2 (some .int), .classLink RL 13 "java/lang/IndexOutOfBoundsException"]
theorem zlR_look_in : ∀ w ∈ zlR_look ++ zwX, w ∈ lw_tbl := List.forall_mem_append.mpr ⟨List.forall_mem_cons.mpr ⟨zT2 (i := 66) rfl, List.forall_mem_cons.mpr ⟨zT2 (i := 67) rfl, List.forall_mem_cons.mpr ⟨zT2 (i := 68) rfl, List.forall_mem_cons.mpr ⟨zT2 (i := 69) rfl, List.forall_mem_cons.mpr ⟨zT1 (i := 64) rfl, fun _ h => absurd h List.not_mem_nil⟩⟩⟩⟩⟩, zwX_in⟩
theorem zlR_look_good : ∀ w ∈ zlR_look ++ zwX, goodWord w = true := List.forall_mem_append.mpr ⟨fun w h => List.all_eq_true.mp (show (zlR_look).all goodWord = true by decide +kernel) w h, zwX_good⟩
set_option maxHeartbeats 4000000 in
set_option maxRecDepth 100000 in
theorem zlM_look (l : Launch) (hst : l.stackTraces = false) (k : Zxk) (Dk : ZxD k) {aJ : Nat} {cJ : ClassId} (hJ : ¬ ZxA k aJ) (f : Nat → Int64) (u : Zxs) (a1 : Int32) : Met l yL_look (.codeWith yL_look cL_look 4 (some .int) [(0, 9, 12, 13)] :: (zlR_look ++ zwX)) zrL (ZlB k aJ cJ f [.ref (zxa_this k), .int a1, .ref aJ] u) (ZlQ k aJ cJ (zl_look u f a1)) 1 6 (ZlA k aJ) := by
  refine zl_enter (by decide) rfl (Nat.le_of_ble_eq_true rfl) ?_
  intro p e s m below meth c ls S htb hr hlk hB hl
  obtain ⟨⟨⟨-, hP, hK⟩, hE⟩, hPJ, hKJ⟩ := hB
  have hx := S.1
  have hb := S.2.1
  have hl : lv_has ls 4 [(0, .ref (zxa_this k)), (1, .int a1), (2, .ref aJ)] := hl
  have hS : va_S (ZlA k aJ) s.heap s.heap [] := va_S.rf
  refine lv_aload_n hx hb dL_look_0 rfl (lv_at hl 2 rfl) ?_
  refine lv_iconst (v := 0) hx hb dL_look_1 (by decide) ?_
  refine lv_aload_n hx hb dL_look_2 rfl (lv_at hl 0 rfl) ?_
  refine lv_iload_n hx hb dL_look_3 rfl (lv_at hl 1 rfl) ?_
  by_cases hok : zx_isWord a1 = 0
  · refine zl_throw (As := [.int a1]) (rest := [.int 0, .ref aJ]) S hK hE (zxT_look l hst k Dk u a1 hok) (zl_cw (n := 1) (rm := zrmX) S (fun w h => ⟨List.mem_append_right _ h, zwX_good _ h⟩) (List.mem_append_left _ (List.mem_of_getElem? (i := 3) rfl)) rfl rfl (List.mem_append_right _ (zwX_step wsX0_step_init)) (List.mem_append_left _ (List.mem_of_getElem? (i := 0) rfl)) (List.mem_append_left _ (List.mem_of_getElem? (i := 1) rfl)) (List.mem_append_left _ (List.mem_of_getElem? (i := 2) rfl)) (by decide +kernel) (by decide)) hP hPJ hl.1 (Nat.le_of_ble_eq_true rfl) rfl dL_look_4 (by decide) [] ⟨0, 9, 12, 13⟩ [] htb (fun _ h => by cases h) (by decide) (by decide) (S.2.2.2.2 _ (List.mem_append_left _ (List.mem_of_getElem? (i := 4) rfl))) hE.2.1.1 (fun q H hP hPJ hS => ?_)
    refine lv_astore_n (lv' := [(3, .ref q), (0, .ref (zxa_this k)), (1, .int a1), (2, .ref aJ)]) hx hb dL_look_12 rfl hl (by decide) rfl (fun ls hl => ?_)
    refine lv_iconst (v := 1) hx hb dL_look_13 (by decide) ?_
    exact zl_ret hx hb hr hlk hP hPJ hS (by unfold zl_look; rw [if_pos hok]) (by decide) (by decide) dL_look_14
  · refine zx_callFR (As := [.int a1]) (rest := [.int 0, .ref aJ]) S hK (zxM_look l k Dk u a1 hok) (zl_cw (n := 1) (rm := zrm 1) S (fun w h => ⟨List.mem_append_right _ (zwX_step h), zwX_good _ (zwX_step h)⟩) (List.mem_append_left _ (List.mem_of_getElem? (i := 3) rfl)) rfl rfl (List.mem_append_right _ (zwX_step wsX0_step_init)) (List.mem_append_left _ (List.mem_of_getElem? (i := 0) rfl)) (List.mem_append_left _ (List.mem_of_getElem? (i := 1) rfl)) (List.mem_append_left _ (List.mem_of_getElem? (i := 2) rfl)) (by decide +kernel) (by decide)) hP hl.1 (Nat.le_of_ble_eq_true rfl) rfl dL_look_4 (by decide) ?_
    refine zl_store hx hb hKJ Dk hJ hP hPJ hS dL_look_7 dL_look_8 (fun H locs hP hPJ hS => ?_)
    refine lv_goto (tgt := 15) hx hb dL_look_9 (by decide) ?_
    refine lv_iconst (v := 0) hx hb dL_look_15 (by decide) ?_
    exact zl_ret hx hb hr hlk hP hPJ hS (by unfold zl_look; rw [if_neg hok]) (by decide) (by decide) dL_look_16

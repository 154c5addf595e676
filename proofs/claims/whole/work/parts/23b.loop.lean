
set_option maxHeartbeats 4000000 in
set_option maxRecDepth 100000 in
/-- THE LAW'S LOOP: at its head, with j calls done, the class and the reference agree -/
theorem law_loop {p : Program} {l : Launch} {e : Env} {s : State} {m : MethodId} {below : List Frame} {meth : Method} {c : Code} (hst : l.stackTraces = false) {b L : Nat} {xs : Nat → Int32} (hL : L ≤ 2560) (C0 : lw_At p s m meth c b L xs) {k : Zxk} {kt : Ztk} {aJ : Nat} {cJ : ClassId} (Z : Zlaw s k kt aJ cJ) :
    ∀ (rem j : Nat) (u : Zxs) (v : Zts) (f : Nat → Int64) (H : Heap) (locs : List Loc) (ls : Array Slot), 5 * j ≤ 2560 → L ≤ 5 * j + 5 * rem + 4 → Zrel u v → Zbyt u → ZH k kt aJ cJ u v f H → va_S (ZF s) s.heap H locs →
      lv_has ls 7 [(0, .ref b), (1, .ref (zxa_this k)), (2, .ref (zta_this kt)), (3, .ref aJ), (4, .int (nI (5 * j)))] → W p l e room_1 s m #[Value.ref b] below meth c H locs (9 + j) (1580 + 6 * j) (lw_Z below #[Value.ref b] s) (F0 m 23 ls []) := by
  obtain ⟨hx, hb, hr, hml, hown, hts, hX, hbl, hlocks, hgv⟩ := C0
  have hb : c.code = cL_law := hb
  have S : CallFix p m c cL_law 7 s #[Value.ref b] lw_tbl RL := ⟨hx, hb, hml, hown, hts⟩
  have hbA : ¬ ZF s b := Nat.not_le.mpr hbl
  have head : ∀ (j : Nat) (H : Heap) (locs : List Loc) (ls : Array Slot), 5 * j ≤ 2560 → va_S (ZF s) s.heap H locs → lv_has ls 7 [(0, .ref b), (1, .ref (zxa_this k)), (2, .ref (zta_this kt)), (3, .ref aJ), (4, .int (nI (5 * j)))] →
      (5 * j + 5 ≤ L → W p l e room_1 s m #[Value.ref b] below meth c H locs (9 + j) (1580 + 6 * j) (lw_Z below #[Value.ref b] s) (F0 m 32 ls [])) → W p l e room_1 s m #[Value.ref b] below meth c H locs (9 + j) (1580 + 6 * j) (lw_Z below #[Value.ref b] s) (F0 m 23 ls []) := by
    intro j H locs ls hj hS hl go
    refine lv_iload hx hb dL_law_23 (lv_at hl 4 rfl) ?_
    refine lv_aload_n hx hb dL_law_25 rfl (lv_at hl 0 rfl) ?_
    refine va_slen hx hb hX hbl hbA hS dL_law_26 ?_
    refine lv_iconst (v := 5) hx hb dL_law_27 (by decide) ?_
    refine lv_isub hx hb dL_law_28 ?_
    refine lv_icmp_gt (tgt := 422) hx hb dL_law_29 (by decide) (fun _ => ?_) (fun q => go (zl_bound hL hj q))
    refine lv_iconst (v := 1) hx hb dL_law_422 (by decide) ?_
    refine va_forget (fun q hq => hS.2.2 q hq) ?_
    refine W.widen (k := 1039) (n := 9808) (by omega) (by omega) ?_
    exact lw_ret hx hb hr hlocks dL_law_423
  intro rem
  induction rem with
  | zero =>
    intro j u v f H locs ls hj hr5 R Y hH hS hl
    exact head j H locs ls hj hS hl (fun h5 => absurd h5 (by omega))
  | succ rem ih =>
    intro j u v f H locs ls hj hr5 R Y hH hS hl
    refine head j H locs ls hj hS hl (fun h5 => ?_)
    have h0 : vp_in (nI (5 * j)) L := vp_in_nI (by omega) (by omega)
    have h1 : vp_in (nI (5 * j) + 1) L := by rw [show nI (5 * j) + 1 = nI (5 * j + 1) from nI_add (5 * j) 1]; exact vp_in_nI (by omega) (by omega)
    have h2 : vp_in (nI (5 * j) + 2) L := by rw [show nI (5 * j) + 2 = nI (5 * j + 2) from nI_add (5 * j) 2]; exact vp_in_nI (by omega) (by omega)
    have h3 : vp_in (nI (5 * j) + 3) L := by rw [show nI (5 * j) + 3 = nI (5 * j + 3) from nI_add (5 * j) 3]; exact vp_in_nI (by omega) (by omega)
    have h4 : vp_in (nI (5 * j) + 4) L := by rw [show nI (5 * j) + 4 = nI (5 * j + 4) from nI_add (5 * j) 4]; exact vp_in_nI (by omega) (by omega)
    have hf : 9 + j + 1 ≤ room_1.cells ∧ 1580 + 6 * j + 6 ≤ room_1.slots := ⟨show 9 + j + 1 ≤ 1039 by omega, show 1580 + 6 * j + 6 ≤ 9808 by omega⟩
    have kk : ∀ (u : Zxs) (v : Zts) (f : Nat → Int64) (H : Heap) (locs : List Loc) (ls : Array Slot), Zrel u v → Zbyt u → ZH k kt aJ cJ u v f H → va_S (ZF s) s.heap H locs → lv_has ls 7 [(0, .ref b), (1, .ref (zxa_this k)), (2, .ref (zta_this kt)), (3, .ref aJ), (4, .int (nI (5 * j)))] → W p l e room_1 s m #[Value.ref b] below meth c H locs (9 + j + 1) (1580 + 6 * j + 6) (lw_Z below #[Value.ref b] s) (F0 m 416 ls []) := by
      intro u v f H locs ls R Y hH hS hl
      refine lv_iinc (v := nI (5 * j + 5)) (lv' := [(4, .int (nI (5 * j + 5))), (0, .ref b), (1, .ref (zxa_this k)), (2, .ref (zta_this kt)), (3, .ref aJ)]) hx hb dL_law_416 hl (k := 4) rfl (nI_add (5 * j) 5) (by decide) rfl (fun ls hl => ?_)
      refine lv_goto (tgt := 23) hx hb dL_law_419 (by decide) ?_
      refine W.widen (k := 9 + (j + 1)) (n := 1580 + 6 * (j + 1)) (by omega) (by omega) ?_
      exact ih (j + 1) u v f H locs ls (by omega) (by omega) R Y hH hS (lv_sub hl [1, 2, 3, 4, 0] rfl)
    refine lv_aload_n hx hb dL_law_32 rfl (lv_at hl 0 rfl) ?_
    refine lv_iload hx hb dL_law_33 (lv_at hl 4 rfl) ?_
    refine va_sld hx hb hX hbl hbA hS h0 dL_law_35 ?_
    refine lv_bipush (v := 7) hx hb dL_law_36 (by decide) ?_
    refine lv_iand hx hb dL_law_38 ?_
    generalize xs (nI (5 * j)).toNatClampNeg &&& 7 = w
    by_cases c0 : w = 0
    · refine lv_tableIn (off := 41) (tgt := 80) hx hb dL_law_39 (by rw [c0]; decide) (by rw [c0]; decide) (by rw [c0]; decide) (by decide) ?_
      exact zlaw_word hst S hX hbl Z R Y hH hS hl h1 h2 h3 h4 hf kk
    by_cases c1 : w = 1
    · refine lv_tableIn (off := 89) (tgt := 128) hx hb dL_law_39 (by rw [c1]; decide) (by rw [c1]; decide) (by rw [c1]; decide) (by decide) ?_
      exact zlaw_code hst S hX hbl Z R Y hH hS hl h1 h2 h3 h4 hf kk
    by_cases c2 : w = 2
    · refine lv_tableIn (off := 137) (tgt := 176) hx hb dL_law_39 (by rw [c2]; decide) (by rw [c2]; decide) (by rw [c2]; decide) (by decide) ?_
      exact zlaw_boot hst S hX hbl Z R Y hH hS hl h1 h2 h3 h4 hf kk
    by_cases c3 : w = 3
    · refine lv_tableIn (off := 196) (tgt := 235) hx hb dL_law_39 (by rw [c3]; decide) (by rw [c3]; decide) (by rw [c3]; decide) (by decide) ?_
      exact zlaw_run hst S hX hbl Z R Y hH hS hl h1 h2 h3 h4 hf kk
    by_cases c4 : w = 4
    · refine lv_tableIn (off := 252) (tgt := 291) hx hb dL_law_39 (by rw [c4]; decide) (by rw [c4]; decide) (by rw [c4]; decide) (by decide) ?_
      exact zlaw_register hst S hX hbl Z R Y hH hS hl h1 h2 h3 h4 hf kk
    by_cases c5 : w = 5
    · refine lv_tableIn (off := 308) (tgt := 347) hx hb dL_law_39 (by rw [c5]; decide) (by rw [c5]; decide) (by rw [c5]; decide) (by decide) ?_
      exact zlaw_look hst S hX hbl Z R Y hH hS hl h1 h2 h3 h4 hf kk
    by_cases c6 : w = 6
    · refine lv_tableIn (off := 364) (tgt := 403) hx hb dL_law_39 (by rw [c6]; decide) (by rw [c6]; decide) (by rw [c6]; decide) (by decide) ?_
      exact zlaw_sum hst S hX hbl Z R Y hH hS hl h1 h2 h3 h4 hf kk
    refine lv_tableOut (tgt := 416) hx hb dL_law_39 (by have q0 := lv_neT c0 (show (0 : Int32).toInt = 0 from rfl); have q1 := lv_neT c1 (show (1 : Int32).toInt = 1 from rfl); have q2 := lv_neT c2 (show (2 : Int32).toInt = 2 from rfl); have q3 := lv_neT c3 (show (3 : Int32).toInt = 3 from rfl); have q4 := lv_neT c4 (show (4 : Int32).toInt = 4 from rfl); have q5 := lv_neT c5 (show (5 : Int32).toInt = 5 from rfl); have q6 := lv_neT c6 (show (6 : Int32).toInt = 6 from rfl); omega) (by decide) ?_
    refine W.widen (k := 9 + j + 1) (n := 1580 + 6 * j + 6) (by omega) (by omega) ?_
    exact kk u v f H locs ls R Y hH hS hl

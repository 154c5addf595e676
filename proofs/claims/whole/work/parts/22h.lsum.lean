set_option maxHeartbeats 4000000 in
set_option maxRecDepth 100000 in
theorem zlaw_sum {p : Program} {l : Launch} {e : Env} {s : State} {m : MethodId} {below : List Frame} {meth : Method} {c : Code} (hst : l.stackTraces = false) {b L : Nat} {xs : Nat → Int32} (S : CallFix p m c cL_law 7 s #[Value.ref b] lw_tbl RL) (hX : va_X b L xs s s.heap) (hbl : b < s.heap.size) {k : Zxk} {kt : Ztk} {aJ : Nat} {cJ : ClassId} (Z : Zlaw s k kt aJ cJ)
    {u : Zxs} {v : Zts} {f : Nat → Int64} {H : Heap} {locs : List Loc} {ls : Array Slot} {i : Int32} {cells slots : Nat} {Q : State → Prop} (R : Zrel u v) (Y : Zbyt u) (hH : ZH k kt aJ cJ u v f H) (hS : va_S (ZF s) s.heap H locs) (hl : lv_has ls 7 [(0, .ref b), (1, .ref (zxa_this k)), (2, .ref (zta_this kt)), (3, .ref aJ), (4, .int i)]) (h1 : vp_in (i + 1) L) (h2 : vp_in (i + 2) L) (h3 : vp_in (i + 3) L) (h4 : vp_in (i + 4) L) (hf : cells + 1 ≤ room_1.cells ∧ slots + 6 ≤ room_1.slots)
    (kk : ∀ (u : Zxs) (v : Zts) (f : Nat → Int64) (H : Heap) (locs : List Loc) (ls : Array Slot), Zrel u v → Zbyt u → ZH k kt aJ cJ u v f H → va_S (ZF s) s.heap H locs → lv_has ls 7 [(0, .ref b), (1, .ref (zxa_this k)), (2, .ref (zta_this kt)), (3, .ref aJ), (4, .int i)] → W p l e room_1 s m #[Value.ref b] below meth c H locs (cells + 1) (slots + 6) Q (F0 m 416 ls [])) :
    W p l e room_1 s m #[Value.ref b] below meth c H locs cells slots Q (F0 m 403 ls []) := by
  have hx := S.1
  have hb := S.2.1
  have hbA : ¬ ZF s b := Nat.not_le.mpr hbl
  have Dk : ZxD k := Z.2.2.2.1
  have Dt : ZtD kt := Z.2.2.2.2.1
  have hJ : ¬ ZxA k aJ := Z.2.2.2.2.2.2.2.2.1
  refine W.widen (k := cells + 1) (n := slots + 6) (Nat.le_succ _) (Nat.le_add_right _ _) ?_
  refine lv_aload_n hx hb dL_law_403 rfl (lv_at hl 1 rfl) ?_
  refine zx_callFR (As := []) (rest := []) S Z.1 (zxM_sum l k Dk _ ) (zl_cw (n := 0) (rm := zrm 0) S (fun w h => ⟨zin_wsX0_step _ h, zwX_good _ (zwX_step h)⟩) (zT1 (i := 60) rfl) rfl rfl (zT1 (i := 1) rfl) (zT1 (i := 57) rfl) (zT1 (i := 58) rfl) (zT1 (i := 59) rfl) (by decide +kernel) (by decide)) hH.1 hl.1 (Nat.le_of_ble_eq_true rfl) rfl dL_law_404 hf ?_
  refine lv_aload_n hx hb dL_law_407 rfl (lv_at hl 2 rfl) ?_
  refine zq_T (As := []) (rest := [.int (zx_sum u)]) S Z (ztM_sum l kt Dt _ ) (zl_cw (n := 0) (rm := zrm 0) S (fun w h => ⟨zin_zwT _ h, zwT_gw _ h⟩) (zT2 (i := 229) rfl) rfl rfl (zT1 (i := 2) rfl) (zT2 (i := 226) rfl) (zT2 (i := 227) rfl) (zT2 (i := 228) rfl) (by decide +kernel) (by decide)) hH hS hl.1 (Nat.le_of_ble_eq_true rfl) rfl dL_law_408 hf (fun H locs hH hS => ?_)
  have cc := zc_sum R
  refine lv_icmp_eq (tgt := 416) hx hb dL_law_411 (by decide) (fun _ => ?_) (fun q => absurd cc.2 q)
  exact kk _ _ _ _ _ _ cc.1 Y hH hS hl

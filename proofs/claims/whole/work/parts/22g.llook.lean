set_option maxHeartbeats 4000000 in
set_option maxRecDepth 100000 in
theorem zlaw_look {p : Program} {l : Launch} {e : Env} {s : State} {m : MethodId} {below : List Frame} {meth : Method} {c : Code} (hst : l.stackTraces = false) {b L : Nat} {xs : Nat → Int32} (S : CallFix p m c cL_law 7 s #[Value.ref b] lw_tbl RL) (hX : va_X b L xs s s.heap) (hbl : b < s.heap.size) {k : Zxk} {kt : Ztk} {aJ : Nat} {cJ : ClassId} (Z : Zlaw s k kt aJ cJ)
    {u : Zxs} {v : Zts} {f : Nat → Int64} {H : Heap} {locs : List Loc} {ls : Array Slot} {i : Int32} {cells slots : Nat} {Q : State → Prop} (R : Zrel u v) (Y : Zbyt u) (hH : ZH k kt aJ cJ u v f H) (hS : va_S (ZF s) s.heap H locs) (hl : lv_has ls 7 [(0, .ref b), (1, .ref (zxa_this k)), (2, .ref (zta_this kt)), (3, .ref aJ), (4, .int i)]) (h1 : vp_in (i + 1) L) (h2 : vp_in (i + 2) L) (h3 : vp_in (i + 3) L) (h4 : vp_in (i + 4) L) (hf : cells + 1 ≤ room_1.cells ∧ slots + 6 ≤ room_1.slots)
    (kk : ∀ (u : Zxs) (v : Zts) (f : Nat → Int64) (H : Heap) (locs : List Loc) (ls : Array Slot), Zrel u v → Zbyt u → ZH k kt aJ cJ u v f H → va_S (ZF s) s.heap H locs → lv_has ls 7 [(0, .ref b), (1, .ref (zxa_this k)), (2, .ref (zta_this kt)), (3, .ref aJ), (4, .int i)] → W p l e room_1 s m #[Value.ref b] below meth c H locs (cells + 1) (slots + 6) Q (F0 m 416 ls [])) :
    W p l e room_1 s m #[Value.ref b] below meth c H locs cells slots Q (F0 m 347 ls []) := by
  have hx := S.1
  have hb := S.2.1
  have hbA : ¬ ZF s b := Nat.not_le.mpr hbl
  have Dk : ZxD k := Z.2.2.2.1
  have Dt : ZtD kt := Z.2.2.2.2.1
  have hJ : ¬ ZxA k aJ := Z.2.2.2.2.2.2.2.2.1
  refine lv_aload_n hx hb dL_law_347 rfl (lv_at hl 1 rfl) ?_
  refine lv_aload_n hx hb dL_law_348 rfl (lv_at hl 0 rfl) ?_
  refine lv_iload hx hb dL_law_349 (lv_at hl 4 rfl) ?_
  refine lv_iconst (v := 1) hx hb dL_law_351 (by decide) ?_
  refine lv_iadd hx hb dL_law_352 ?_
  refine va_sld hx hb hX hbl hbA hS h1 dL_law_353 ?_
  refine lv_aload_n hx hb dL_law_354 rfl (lv_at hl 3 rfl) ?_
  have cc := zc_look R Y f (xs (i + 1).toNatClampNeg)
  refine zq_S (As := [.ref (zxa_this k), .int (xs (i + 1).toNatClampNeg), .ref aJ]) (rest := []) S Z (zlM_look l hst k Dk hJ f u (xs (i + 1).toNatClampNeg)) (zl_csw (n := 3) S (fun w h => ⟨zlR_look_in _ h, zlR_look_good _ h⟩) (zT2 (i := 65) rfl) (zT1 (i := 0) rfl) (zT2 (i := 63) rfl) (zT2 (i := 64) rfl) (by decide +kernel) (by decide)) hH hS hl.1 (Nat.le_of_ble_eq_true rfl) rfl dL_law_355 hf (fun H locs hH hS => ?_)
  refine lv_istore (lv' := [(5, .int (zl_look u f (xs (i + 1).toNatClampNeg)).1), (0, .ref b), (1, .ref (zxa_this k)), (2, .ref (zta_this kt)), (3, .ref aJ), (4, .int i)]) hx hb dL_law_358 hl (by decide) rfl (fun ls hl => ?_)
  refine lv_aload_n hx hb dL_law_360 rfl (lv_at hl 3 rfl) ?_
  refine lv_aload_n hx hb dL_law_361 rfl (lv_at hl 1 rfl) ?_
  refine lv_iload hx hb dL_law_362 (lv_at hl 5 rfl) ?_
  refine lv_iconst (v := 1) hx hb dL_law_364 (by decide) ?_
  refine lv_iadd hx hb dL_law_365 ?_
  refine va_sld hx hb hX hbl hbA hS h1 dL_law_366 ?_
  refine zq_T (As := [.int (xs (i + 1).toNatClampNeg)]) (rest := []) S Z (ztM_look l kt Dt _ (xs (i + 1).toNatClampNeg)) (zl_cw (n := 1) (rm := zrm 1) S (fun w h => ⟨zin_zwT _ h, zwT_gw _ h⟩) (zT2 (i := 225) rfl) rfl rfl (zT1 (i := 2) rfl) (zT2 (i := 222) rfl) (zT2 (i := 223) rfl) (zT2 (i := 224) rfl) (by decide +kernel) (by decide)) hH hS hl.1 (Nat.le_of_ble_eq_true rfl) rfl dL_law_367 hf (fun H locs hH hS => ?_)
  refine lv_istore (lv' := [(6, .int (zt_look v (xs (i + 1).toNatClampNeg)).1), (5, .int (zl_look u f (xs (i + 1).toNatClampNeg)).1), (0, .ref b), (1, .ref (zxa_this k)), (2, .ref (zta_this kt)), (3, .ref aJ), (4, .int i)]) hx hb dL_law_370 hl (by decide) rfl (fun ls hl => ?_)
  refine lv_aload_n hx hb dL_law_372 rfl (lv_at hl 4 rfl) ?_
  refine zt_callFR (As := []) (rest := []) S Z.2.1 (ztM_thrown l kt Dt _ ) (zl_cw (n := 0) (rm := zrm 0) S (fun w h => ⟨zin_zwT _ h, zwT_gw _ h⟩) (zT2 (i := 131) rfl) rfl rfl (zT1 (i := 2) rfl) (zT2 (i := 128) rfl) (zT2 (i := 129) rfl) (zT2 (i := 130) rfl) (by decide +kernel) (by decide)) hH.2.1 hl.1 (Nat.le_of_ble_eq_true rfl) rfl dL_law_373 hf ?_
  refine lv_iload hx hb dL_law_376 (lv_at hl 1 rfl) ?_
  refine lv_icmp_eq (tgt := 383) hx hb dL_law_378 (by decide) (fun _ => ?_) (fun q => absurd cc.1.2.2 q)
  refine lv_iload hx hb dL_law_383 (lv_at hl 1 rfl) ?_
  refine lv_if_ne (tgt := 400) hx hb dL_law_385 (by decide) (fun _ => ?_) (fun h0 => ?_)
  · refine lv_goto (tgt := 416) hx hb dL_law_400 (by decide) ?_
    exact kk _ _ _ _ _ _ cc.1.1 cc.1.2.1 hH hS (lv_sub hl [2, 3, 4, 5, 6] rfl)
  refine lv_aload_n hx hb dL_law_388 rfl (lv_at hl 5 rfl) ?_
  refine lv_iconst (v := 0) hx hb dL_law_389 (by decide) ?_
  refine va_lald (D := k.1) (ws := zJW aJ cJ (zl_look u f (xs (i + 1).toNatClampNeg)).2.2) hx hb Z.2.2.1 hH.2.2 0 0 rfl rfl (vp_in_nI (by decide) (by decide)) dL_law_390 ?_
  refine lv_iload hx hb dL_law_391 (lv_at hl 0 rfl) ?_
  refine lv_i2l hx hb dL_law_393 rfl ?_
  refine W.lcmp hx hb dL_law_394 ?_
  refine lv_if_eq (tgt := 400) hx hb dL_law_395 (by decide) (fun _ => ?_) (fun q => absurd (by rw [cc.2 h0]; exact z_cmp _) q)
  refine lv_goto (tgt := 416) hx hb dL_law_400 (by decide) ?_
  exact kk _ _ _ _ _ _ cc.1.1 cc.1.2.1 hH hS (lv_sub hl [2, 3, 4, 5, 6] rfl)

set_option maxHeartbeats 4000000 in
set_option maxRecDepth 100000 in
theorem zlaw_boot {p : Program} {l : Launch} {e : Env} {s : State} {m : MethodId} {below : List Frame} {meth : Method} {c : Code} (hst : l.stackTraces = false) {b L : Nat} {xs : Nat → Int32} (S : CallFix p m c cL_law 7 s #[Value.ref b] lw_tbl RL) (hX : va_X b L xs s s.heap) (hbl : b < s.heap.size) {k : Zxk} {kt : Ztk} {aJ : Nat} {cJ : ClassId} (Z : Zlaw s k kt aJ cJ)
    {u : Zxs} {v : Zts} {f : Nat → Int64} {H : Heap} {locs : List Loc} {ls : Array Slot} {i : Int32} {cells slots : Nat} {Q : State → Prop} (R : Zrel u v) (Y : Zbyt u) (hH : ZH k kt aJ cJ u v f H) (hS : va_S (ZF s) s.heap H locs) (hl : lv_has ls 7 [(0, .ref b), (1, .ref (zxa_this k)), (2, .ref (zta_this kt)), (3, .ref aJ), (4, .int i)]) (h1 : vp_in (i + 1) L) (h2 : vp_in (i + 2) L) (h3 : vp_in (i + 3) L) (h4 : vp_in (i + 4) L) (hf : cells + 1 ≤ room_1.cells ∧ slots + 6 ≤ room_1.slots)
    (kk : ∀ (u : Zxs) (v : Zts) (f : Nat → Int64) (H : Heap) (locs : List Loc) (ls : Array Slot), Zrel u v → Zbyt u → ZH k kt aJ cJ u v f H → va_S (ZF s) s.heap H locs → lv_has ls 7 [(0, .ref b), (1, .ref (zxa_this k)), (2, .ref (zta_this kt)), (3, .ref aJ), (4, .int i)] → W p l e room_1 s m #[Value.ref b] below meth c H locs (cells + 1) (slots + 6) Q (F0 m 416 ls [])) :
    W p l e room_1 s m #[Value.ref b] below meth c H locs cells slots Q (F0 m 176 ls []) := by
  have hx := S.1
  have hb := S.2.1
  have hbA : ¬ ZF s b := Nat.not_le.mpr hbl
  have Dk : ZxD k := Z.2.2.2.1
  have Dt : ZtD kt := Z.2.2.2.2.1
  have hJ : ¬ ZxA k aJ := Z.2.2.2.2.2.2.2.2.1
  refine W.widen (k := cells + 1) (n := slots + 6) (Nat.le_succ _) (Nat.le_add_right _ _) ?_
  refine lv_aload_n hx hb dL_law_176 rfl (lv_at hl 1 rfl) ?_
  refine lv_aload_n hx hb dL_law_177 rfl (lv_at hl 0 rfl) ?_
  refine lv_iload hx hb dL_law_178 (lv_at hl 4 rfl) ?_
  refine lv_iconst (v := 1) hx hb dL_law_180 (by decide) ?_
  refine lv_iadd hx hb dL_law_181 ?_
  refine va_sld hx hb hX hbl hbA hS h1 dL_law_182 ?_
  refine lv_aload_n hx hb dL_law_183 rfl (lv_at hl 0 rfl) ?_
  refine lv_iload hx hb dL_law_184 (lv_at hl 4 rfl) ?_
  refine lv_iconst (v := 2) hx hb dL_law_186 (by decide) ?_
  refine lv_iadd hx hb dL_law_187 ?_
  refine va_sld hx hb hX hbl hbA hS h2 dL_law_188 ?_
  refine lv_aload_n hx hb dL_law_189 rfl (lv_at hl 0 rfl) ?_
  refine lv_iload hx hb dL_law_190 (lv_at hl 4 rfl) ?_
  refine lv_iconst (v := 3) hx hb dL_law_192 (by decide) ?_
  refine lv_iadd hx hb dL_law_193 ?_
  refine va_sld hx hb hX hbl hbA hS h3 dL_law_194 ?_
  refine lv_aload_n hx hb dL_law_195 rfl (lv_at hl 0 rfl) ?_
  refine lv_iload hx hb dL_law_196 (lv_at hl 4 rfl) ?_
  refine lv_iconst (v := 4) hx hb dL_law_198 (by decide) ?_
  refine lv_iadd hx hb dL_law_199 ?_
  refine va_sld hx hb hX hbl hbA hS h4 dL_law_200 ?_
  refine zq_X (As := [.int (xs (i + 1).toNatClampNeg), .int (xs (i + 2).toNatClampNeg), .int (xs (i + 3).toNatClampNeg), .int (xs (i + 4).toNatClampNeg)]) (rest := []) S Z (zxM_boot l k Dk _ (xs (i + 1).toNatClampNeg) (xs (i + 2).toNatClampNeg) (xs (i + 3).toNatClampNeg) (xs (i + 4).toNatClampNeg)) (zl_cw (n := 4) (rm := zrm 1) S (fun w h => ⟨zin_wsX0_step _ h, zwX_good _ (zwX_step h)⟩) (zT1 (i := 53) rfl) rfl rfl (zT1 (i := 1) rfl) (zT1 (i := 50) rfl) (zT1 (i := 51) rfl) (zT1 (i := 52) rfl) (by decide +kernel) (by decide)) hH hS hl.1 (Nat.le_of_ble_eq_true rfl) rfl dL_law_201 hf (fun H locs hH hS => ?_)
  refine lv_aload_n hx hb dL_law_204 rfl (lv_at hl 2 rfl) ?_
  refine lv_aload_n hx hb dL_law_205 rfl (lv_at hl 0 rfl) ?_
  refine lv_iload hx hb dL_law_206 (lv_at hl 4 rfl) ?_
  refine lv_iconst (v := 1) hx hb dL_law_208 (by decide) ?_
  refine lv_iadd hx hb dL_law_209 ?_
  refine va_sld hx hb hX hbl hbA hS h1 dL_law_210 ?_
  refine lv_aload_n hx hb dL_law_211 rfl (lv_at hl 0 rfl) ?_
  refine lv_iload hx hb dL_law_212 (lv_at hl 4 rfl) ?_
  refine lv_iconst (v := 2) hx hb dL_law_214 (by decide) ?_
  refine lv_iadd hx hb dL_law_215 ?_
  refine va_sld hx hb hX hbl hbA hS h2 dL_law_216 ?_
  refine lv_aload_n hx hb dL_law_217 rfl (lv_at hl 0 rfl) ?_
  refine lv_iload hx hb dL_law_218 (lv_at hl 4 rfl) ?_
  refine lv_iconst (v := 3) hx hb dL_law_220 (by decide) ?_
  refine lv_iadd hx hb dL_law_221 ?_
  refine va_sld hx hb hX hbl hbA hS h3 dL_law_222 ?_
  refine lv_aload_n hx hb dL_law_223 rfl (lv_at hl 0 rfl) ?_
  refine lv_iload hx hb dL_law_224 (lv_at hl 4 rfl) ?_
  refine lv_iconst (v := 4) hx hb dL_law_226 (by decide) ?_
  refine lv_iadd hx hb dL_law_227 ?_
  refine va_sld hx hb hX hbl hbA hS h4 dL_law_228 ?_
  refine zq_T (As := [.int (xs (i + 1).toNatClampNeg), .int (xs (i + 2).toNatClampNeg), .int (xs (i + 3).toNatClampNeg), .int (xs (i + 4).toNatClampNeg)]) (rest := []) S Z (ztM_boot l kt Dt _ (xs (i + 1).toNatClampNeg) (xs (i + 2).toNatClampNeg) (xs (i + 3).toNatClampNeg) (xs (i + 4).toNatClampNeg)) (zl_cw (n := 4) (rm := zrm 1) S (fun w h => ⟨zin_zwT _ h, zwT_gw _ h⟩) (zT2 (i := 146) rfl) rfl rfl (zT1 (i := 2) rfl) (zT2 (i := 143) rfl) (zT2 (i := 144) rfl) (zT2 (i := 145) rfl) (by decide +kernel) (by decide)) hH hS hl.1 (Nat.le_of_ble_eq_true rfl) rfl dL_law_229 hf (fun H locs hH hS => ?_)
  have cc := zc_boot R Y (xs (i + 1).toNatClampNeg) (xs (i + 2).toNatClampNeg) (xs (i + 3).toNatClampNeg) (xs (i + 4).toNatClampNeg)
  refine lv_goto (tgt := 416) hx hb dL_law_232 (by decide) ?_
  exact kk _ _ _ _ _ _ cc.1 cc.2 hH hS (lv_sub hl [0, 1, 2, 3, 4] rfl)

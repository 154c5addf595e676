
theorem zwT_gw : ∀ w ∈ zwT, goodWord w = true := fun w h => List.all_eq_true.mp (show zwT.all goodWord = true by decide +kernel) w h
theorem ztR_gw : ∀ w ∈ ztR, goodWord w = true := fun w h => List.all_eq_true.mp (show ztR.all goodWord = true by decide +kernel) w h
theorem z_cmp (x : Int64) : lg_cmp x x = 0 := by unfold lg_cmp; simp
/-- new in the law: nothing that was there before -/
def ZF (s : State) : Nat → Prop := fun q => s.heap.size ≤ q
/-- what stays as it is along the law -/
def Zlaw (s : State) (k : Zxk) (kt : Ztk) (aJ : Nat) (cJ : ClassId) : Prop :=
  ZxK k s ∧ ZtK kt s ∧ va_K k.1 vwCl [(cJ, .long)] s ∧ ZxD k ∧ ZtD kt ∧ (∀ q ∈ ZtL kt, ¬ ZlA k aJ q) ∧ (∀ q ∈ ZxL k, ¬ ZtA kt q) ∧ ¬ ZtA kt aJ ∧ ¬ ZxA k aJ ∧ (∀ q, ZlA k aJ q → ZF s q) ∧ (∀ q, ZtA kt q → ZF s q) ∧ ZxE (ZF s) s
/-- the heap of the law -/
def ZH (k : Zxk) (kt : Ztk) (aJ : Nat) (cJ : ClassId) (u : Zxs) (v : Zts) (f : Nat → Int64) (H : Heap) : Prop := ZxP k u H ∧ ZtP kt v H ∧ va_P k.1 vwCl (zJW aJ cJ f) H
theorem zx_kept {k : Zxk} {u : Zxs} {A : Nat → Prop} {H H1 : Heap} (hd : ∀ q ∈ ZxL k, ¬ A q) (hP : ZxP k u H) (hk : ∀ q : Nat, q < H.size → ¬ A q → H1[q]? = H[q]?) : ZxP k u H1 :=
  va_P.kept hP (fun j x hx => hk x.1 (hP j x hx).lt (hd x.1 (List.mem_map.mpr ⟨x, List.mem_of_getElem? hx, rfl⟩)))
theorem zt_kept {k : Ztk} {u : Zts} {A : Nat → Prop} {H H1 : Heap} (hd : ∀ q ∈ ZtL k, ¬ A q) (hP : ZtP k u H) (hk : ∀ q : Nat, q < H.size → ¬ A q → H1[q]? = H[q]?) : ZtP k u H1 :=
  va_P.kept hP (fun j x hx => hk x.1 (hP j x hx).lt (hd x.1 (List.mem_map.mpr ⟨x, List.mem_of_getElem? hx, rfl⟩)))
section
variable {p : Program} {l : Launch} {e : Env} {R : Room} {s : State} {m : MethodId} {args : Array Value} {below : List Frame} {meth : Method} {c : Code} {H : Heap} {locs : List Loc} {cells slots : Nat} {Q : State → Prop} {cc : ByteArray} {pc nL : Nat} {ls : Array Slot} {rest : List Value} {k : Zxk} {kt : Ztk} {u : Zxs} {v : Zts} {Ts ws : List Cond} {rm : Room} {aJ : Nat} {cJ : ClassId} {f : Nat → Int64} {own : String}
theorem zl_csw {y : MethodName} {bytes : ByteArray} {index n : Nat} {hh : List (Nat × Nat × Nat × Nat)} (S : CallFix p m c cc nL s args Ts own) (hg : ∀ w ∈ ws, w ∈ Ts ∧ goodWord w = true) (h1 : Cond.codeWith y bytes 4 (some .int) hh ∈ Ts) (hi : Cond.initialized y.cls ∈ Ts) (h2 : Cond.methodLink own index y ∈ Ts) (h3 : Cond.static y ∈ Ts)
    (hd : y.cls ≠ "java/lang/invoke/MethodHandle" ∧ y.cls ≠ "java/lang/invoke/VarHandle" ∧ (parseMethodDescriptor y.desc).map (fun d => d.parameters.length) = some n) (hR : zrL.frames + 1 ≤ R.frames ∧ 8 + (4 + 11) + zrL.locals ≤ R.locals) :
    vx_CSW R s args own index y bytes 4 (some .int) hh (.codeWith y bytes 4 (some .int) hh :: ws) zrL 1 6 n := by
  have hG : GoodIn Ts (.codeWith y bytes 4 (some .int) hh :: ws) := fun w h => by
    rcases List.mem_cons.mp h with rfl | h
    · exact ⟨h1, good_of_word rfl⟩
    · exact ⟨(hg _ h).1, good_of_word (hg _ h).2⟩
  refine ⟨⟨rfl, rfl, hR.1, hR.2, pay_in S.2.2.2.2 hG, List.mem_cons_self⟩, S.2.2.2.2 _ h1, S.2.2.2.2 _ hi, ⟨hd.1, hd.2.1⟩, fun sig h => ?_, S.2.2.2.2 _ h2, S.2.2.2.2 _ h3⟩
  have h2 := hd.2.2
  rw [h] at h2
  exact (Option.some.inj h2).symm
/-- a call of one of the law's static methods -/
theorem zq_S {y : MethodName} {bytes : ByteArray} {index n : Nat} {hh : List (Nat × Nat × Nat × Nat)} {As : List Value} {r : Int32 × Zxs × (Nat → Int64)} (S : CallFix p m c cc nL s args Ts own) (Z : Zlaw s k kt aJ cJ) (hM : Met l y ws zrL (ZlB k aJ cJ f As u) (ZlQ k aJ cJ r) 1 6 (ZlA k aJ)) (cw : vx_CSW R s args own index y bytes 4 (some .int) hh ws zrL 1 6 n)
    (hH : ZH k kt aJ cJ u v f H) (hS : va_S (ZF s) s.heap H locs) (hsz : ls.size = nL) (hw : (rest.map fun v => v.category).sum ≤ 8) (hn : As.length = n) (hdg : decode cc pc = .ok (.invokestatic index, 3)) (hf : cells + 1 ≤ R.cells ∧ slots + 6 ≤ R.slots)
    (kk : ∀ (H1 : Heap) (locs1 : List Loc), ZH k kt aJ cJ r.2.1 v r.2.2 H1 → va_S (ZF s) s.heap H1 locs1 → W p l e R s m args below meth c H1 locs1 (cells + 1) (slots + 6) Q (F0 m (pc + 3) ls (.int r.1 :: rest))) : W p l e R s m args below meth c H locs cells slots Q (F0 m pc ls (As.reverse ++ rest)) := by
  obtain ⟨K, KT, KJ, Dk, Dt, d1, d2, d3, d4, a1, a2, hE⟩ := Z
  obtain ⟨hP, hPT, hPJ⟩ := hH
  intro T hT X
  have hp : PreS s H (ZlB k aJ cJ f As u) As := ⟨zl_blind, fun U hU hW => ⟨⟨⟨rfl, by rw [hU]; exact hP, va_K.moved hW.alike K⟩, (hE.warm hW (fun q g1 g2 => by rw [hU]; exact hS.2.1 q g1 g2)).narrow (fun q h => a1 q (Or.inl h))⟩, by rw [hU]; exact hPJ, va_K.moved hW.alike KJ⟩⟩
  obtain ⟨v', st₀, t, T', L, h0, X', hL, e1, e2, ⟨hv, hPt, hJt, hz, hk⟩, st⟩ := vx_runSW (rest := rest) S hM cw hp (g := F0 m pc ls (As.reverse ++ rest)) rfl hn hsz rfl (lv_room hw) hdg hf T hT X
  cases hv
  rw [h0] at hz hk
  rw [← e1] at hz hk hPt hJt
  obtain ⟨t2, b1, b2⟩ := kk T'.heap (locs ++ L) ⟨hPt, zt_kept d1 hPT hk, hJt⟩
    ⟨Nat.le_trans hS.1 hz, fun q g1 g2 => (hk q (Nat.lt_of_lt_of_le g1 hS.1) (fun g => g2 (a1 q g))).trans (hS.2.1 q g1 g2), fun q hq => by
      rcases List.mem_append.mp hq with h | h
      · exact hS.2.2 q h
      · exact a1 _ (hL q h)⟩ T' rfl X'
  exact ⟨t2, st t2 b1, b2⟩
/-- a call on the reference -/
theorem zq_T {y : MethodName} {bytes : ByteArray} {maxL index n : Nat} {ret : Option FieldType} {o : Option Value} {v' : Zts} {As : List Value} (S : CallFix p m c cc nL s args Ts own) (Z : Zlaw s k kt aJ cJ) (hM : Met l y ws rm (ZtB kt (.ref (zta_this kt) :: As) v) (ZtQ kt o v') 0 0 (ZtA kt))
    (cw : CallW R s args own RX1 index y bytes maxL ret ws rm 0 0 n) (hH : ZH k kt aJ cJ u v f H) (hS : va_S (ZF s) s.heap H locs) (hsz : ls.size = nL) (hw : (rest.map fun v => v.category).sum ≤ 8) (hn : As.length = n) (hdg : decode cc pc = .ok (.invokevirtual index, 3)) (hf : cells ≤ R.cells ∧ slots ≤ R.slots)
    (kk : ∀ (H1 : Heap) (locs1 : List Loc), ZH k kt aJ cJ u v' f H1 → va_S (ZF s) s.heap H1 locs1 → W p l e R s m args below meth c H1 locs1 cells slots Q (F0 m (pc + 3) ls (o.toList ++ rest))) : W p l e R s m args below meth c H locs cells slots Q (F0 m pc ls (As.reverse ++ .ref (zta_this kt) :: rest)) := by
  obtain ⟨K, KT, KJ, Dk, Dt, d1, d2, d3, d4, a1, a2, hE⟩ := Z
  obtain ⟨hP, hPT, hPJ⟩ := hH
  exact zt_callF S KT hM cw hPT a2 hS hsz hw hn hdg hf (fun H1 locs1 hPT1 _ hk hS1 => kk H1 locs1 ⟨zx_kept d2 hP hk, hPT1, zJ_kept d3 hPJ hk⟩ hS1)
theorem zq_X {y : MethodName} {bytes : ByteArray} {maxL index n : Nat} {ret : Option FieldType} {o : Option Value} {u' : Zxs} {As : List Value} (S : CallFix p m c cc nL s args Ts own) (Z : Zlaw s k kt aJ cJ) (hM : Met l y ws rm (ZxB k (.ref (zxa_this k) :: As) u) (ZxQ k o u') 0 0 (ZxA k))
    (cw : CallW R s args own RX0 index y bytes maxL ret ws rm 0 0 n) (hH : ZH k kt aJ cJ u v f H) (hS : va_S (ZF s) s.heap H locs) (hsz : ls.size = nL) (hw : (rest.map fun v => v.category).sum ≤ 8) (hn : As.length = n) (hdg : decode cc pc = .ok (.invokevirtual index, 3)) (hf : cells ≤ R.cells ∧ slots ≤ R.slots)
    (kk : ∀ (H1 : Heap) (locs1 : List Loc), ZH k kt aJ cJ u' v f H1 → va_S (ZF s) s.heap H1 locs1 → W p l e R s m args below meth c H1 locs1 cells slots Q (F0 m (pc + 3) ls (o.toList ++ rest))) : W p l e R s m args below meth c H locs cells slots Q (F0 m pc ls (As.reverse ++ .ref (zxa_this k) :: rest)) := by
  obtain ⟨K, KT, KJ, Dk, Dt, d1, d2, d3, d4, a1, a2, hE⟩ := Z
  obtain ⟨hP, hPT, hPJ⟩ := hH
  exact zx_callF S K hM cw hP (fun q h => a1 q (Or.inl h)) hS hsz hw hn hdg hf (fun H1 locs1 hP1 _ hk hS1 => kk H1 locs1 ⟨hP1, zt_kept (fun q h g => d1 q h (Or.inl g)) hPT hk, zJ_kept d4 hPJ hk⟩ hS1)
end
theorem zl_bound {L n : Nat} (hL : L ≤ 2560) (hn : n ≤ 2560) (h : ¬ (Int32.ofNat L - 5 < nI n)) : n + 5 ≤ L := by
  have h1 : ((nI L) - nI 5).toInt = (L : Int) - 5 := pk_sub_toInt (by omega) (by decide)
  have h2 : (nI n).toInt = (n : Int) := nI_toInt (by omega)
  have h3 : ¬ ((nI L - nI 5).toInt < (nI n).toInt) := fun q => h (Int32.lt_iff_toInt_lt.mpr q)
  rw [h1, h2] at h3
  omega

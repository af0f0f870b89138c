/-! ===== the class: a list under construction (printed by program: gen83.py) ===== -/
theorem cvol_app (h L : List jx_C) : cvol (h ++ L) = cvol h + cvol L := by
  unfold cvol
  rw [List.map_append, List.sum_append]
theorem cvol_set : ∀ (h : List jx_C) (a : Nat) (x y : jx_C), h[a]? = some y → csz x = csz y → cvol (h.set a x) = cvol h
  | [], a, x, y, h1, h2 => rfl
  | c :: h, 0, x, y, h1, h2 => by
    have e : c = y := Option.some.inj h1
    show csz x + cvol h = csz c + cvol h
    rw [e, h2]
  | c :: h, a + 1, x, y, h1, h2 => by
    show csz c + cvol (h.set a x) = csz c + cvol h
    rw [cvol_set h a x y h1 h2]
theorem cvol_sO {h : List jx_C} {a k : Nat} {l l' : List Value} (h1 : h[a]? = some (.inr (k, l))) : cvol (h.set a (.inr (k, l'))) = cvol h := cvol_set h a _ _ h1 rfl
theorem cvol_sA {h : List jx_C} {a k n : Nat} {l l' : Nat → Value} (h1 : h[a]? = some (.inl (k, n, l))) : cvol (h.set a (.inl (k, n, l'))) = cvol h := cvol_set h a _ _ h1 rfl
def bX (X : Nat → Prop) (a ka ia : Nat) : Nat → Prop := fun c => X c ∨ c = a ∨ c = ka ∨ c = ia
theorem bX_o {X : Nat → Prop} {a ka ia : Nat} {c : Nat} (h : ¬ bX X a ka ia c) : ¬ X c ∧ ¬ c = a ∧ ¬ c = ka ∧ ¬ c = ia := ⟨fun e => h (Or.inl e), fun e => h (Or.inr (Or.inl e)), fun e => h (Or.inr (Or.inr (Or.inl e))), fun e => h (Or.inr (Or.inr (Or.inr e)))⟩
theorem bX_i {X : Nat → Prop} {a ka ia : Nat} {c : Nat} (h : ¬ X c) (h1 : ¬ c = a) (h2 : ¬ c = ka) (h3 : ¬ c = ia) : ¬ bX X a ka ia c := fun e => by
  rcases e with e | e | e | e
  · exact h e
  · exact h1 e
  · exact h2 e
  · exact h3 e
/-- a Value at a that is being filled, made at N0 or later -/
def bL (h : jx_H) (X : Nat → Prop) (N0 a ka ia kc ic : Nat) (f g : Nat → Value) (kd : Int) (E : FT) : Prop := (50 ≤ N0 ∧ N0 ≤ a ∧ N0 ≤ ka ∧ N0 ≤ ia ∧ ¬ a = ka ∧ ¬ a = ia ∧ ¬ ka = ia) ∧ (∀ c, N0 ≤ c → ¬ X c) ∧ h[a]? = some (.inr (5, [.int (Int32.ofInt (kd)), .int (Int32.ofInt (0)), .ref (jx_big + 9), .ref ka, .ref ia, .int (Int32.ofInt ((fsz E : Int)))])) ∧ h[ka]? = some (.inl (4, kc, g)) ∧ h[ia]? = some (.inl (4, ic, f)) ∧ (fsz E ≤ ic ∧ ic ≤ 5000) ∧ ((kd = 6 ∧ fsz E ≤ kc ∧ kc ≤ 5000) ∨ (¬ kd = 6 ∧ kc = 0)) ∧ vF h (bX X a ka ia) E (decide (kd = 6)) f g 0
theorem vN_cls {β : Bool} {h : jx_H} {κ : mS} {X : Nat → Prop} {a : Nat} {i : tI} {sz : Nat} {P : (Nat → Value) → (Nat → Value) → Prop} (hl : 50 ≤ h.length) (hv : vNd h X a i sz P) : jx_cls (jz β) (cl_mk h κ) a = some 5 := by
  obtain ⟨z1, t, ka, ia, kc, ic, f', g', z2, z3, h1, -⟩ := hv
  exact js_cls (cl_old hl ⟨by have := z1.1; omega, h1⟩) (jbg (by have := z1.2.1; omega))
/-- it is done -/
theorem bL_done {h : jx_H} {X : Nat → Prop} {N0 a ka ia kc ic : Nat} {f g : Nat → Value} {kd : Int} {E : FT} {s : List Int} (hb32 : h.length ≤ 3000000000) (hb : bL h X N0 a ka ia kc ic f g kd E) : vN h X a (kd, 0, [], s) E := by
  obtain ⟨⟨b0, b1, b2, b3, b4, b5, b6⟩, bx, h1, h2, h3, h4, h5, h6⟩ := hb
  have l1 := (List.getElem?_eq_some_iff.mp h1).1
  have l2 := (List.getElem?_eq_some_iff.mp h2).1
  have l3 := (List.getElem?_eq_some_iff.mp h3).1
  refine ⟨⟨by omega, by omega, bx a b1⟩, jx_big + 9, ka, ia, kc, ic, f, g, ⟨by omega, by omega, bx ka b2⟩, ⟨by omega, by omega, bx ia b3⟩, h1, Or.inl ⟨0, by decide, rfl, (show ([] : List Int) = (jw_txL.getD 0 []).map Int32.toInt by decide)⟩, h2, h3, ⟨h4.1, by omega⟩, ?_, ?_⟩
  · rcases h5 with h5 | h5
    · exact Or.inl ⟨h5.1, h5.2.1, by omega⟩
    · exact Or.inr h5
  · exact vF_fr (fun c y hz hy => ⟨⟨hz.1, hz.2.1, (bX_o hz.2.2).1⟩, hy⟩) _ _ _ _ _ h6
/-- cells behind it are new -/
theorem bL_fr {h h' : jx_H} {X : Nat → Prop} {N0 a ka ia kc ic : Nat} {f g : Nat → Value} {kd : Int} {E : FT} (hq : ∀ (c : Nat) (y : jx_C), h[c]? = some y → h'[c]? = some y) (hb : bL h X N0 a ka ia kc ic f g kd E) : bL h' X N0 a ka ia kc ic f g kd E := by
  obtain ⟨b0, bx, h1, h2, h3, h4, h5, h6⟩ := hb
  exact ⟨b0, bx, hq _ _ h1, hq _ _ h2, hq _ _ h3, h4, h5, vF_fr (fun c y hz hy => ⟨hz, hq _ _ hy⟩) _ _ _ _ _ h6⟩
theorem jc_add {β : Bool} {d : Nat} {h : jx_H} {κ : mS} (hl : 50 ≤ h.length) {N : Nat} (hN : h.length = N) (hb32 : N < 3000000000) {X : Nat → Prop} {N0 a ka ia kc ic b : Nat} {f g : Nat → Value} {kd : Int} {E : FT} {i : tI} {c : FT} (hb : bL h X N0 a ka ia kc ic f g kd E) (hsz : fsz E ≤ 2000) (hv : vN h (bX X a ka ia) b i c) (hk : kd = 6 → fsz E < kc ∧ ∃ b', g (fsz E) = .ref b' ∧ vNd h (bX X a ka ia) b' (4, 0, i.2.2.2, []) 0 (fun _ _ => True)) : ∃ (h' : jx_H) (ia' ic' : Nat) (f' : Nat → Value), jx_r (jz β) jw_M (d + 1) 94 (0, [some (.ref a), some (.ref b)], [], (cl_mk h κ)) (cl_mk h' (κ), .inl none) ∧ bL h' X N0 a ka ia' kc ic' f' g kd (fapp i c E) ∧ (∀ c y, ¬ c = a → ¬ c = ia → h[c]? = some y → h'[c]? = some y) ∧ ((h'.length = N ∧ ic' = ic ∧ ia' = ia ∧ cvol h' = cvol h) ∨ (h'.length = N + 1 ∧ ic' = 2 * ic + 2 ∧ ic = fsz E ∧ cvol h' = cvol h + (2 * ic + 2) ∧ ia' = N)) := by
  obtain ⟨⟨b0, b1, b2, b3, b4, b5, b6⟩, bx, h1, h2, h3, h4, h5, h6⟩ := hb
  have l1 := (List.getElem?_eq_some_iff.mp h1).1
  have l2 := (List.getElem?_eq_some_iff.mp h2).1
  have l3 := (List.getElem?_eq_some_iff.mp h3).1
  have hkc : (kd = 6 ∧ fsz (fapp i c E) ≤ kc ∧ kc ≤ 5000) ∨ (¬ kd = 6 ∧ kc = 0) := by
    rcases h5 with h5 | h5
    · exact Or.inl ⟨h5.1, by rw [fsz_app]; exact (hk h5.1).1, h5.2.2⟩
    · exact Or.inr h5
  by_cases hs : fsz E < ic
  · obtain ⟨f', ef⟩ : ∃ f', f' = updV f ((fsz E : Int)).toNat (.ref b) := ⟨_, rfl⟩
    have hr := jc_addN (β := β) (d := d + 1) (κ := κ) hl (v := b) ⟨by omega, by omega, h1⟩ ⟨by omega, by omega, h3⟩ b5 hs (by omega) (vN_cls hl hv)
    rw [← ef] at hr
    obtain ⟨h', eh⟩ : ∃ h' : jx_H, h' = List.set (List.set h ia (.inl (4, ic, f'))) a (.inr (5, [.int (Int32.ofInt (kd)), .int (Int32.ofInt (0)), .ref (jx_big + 9), .ref ka, .ref ia, .int (Int32.ofInt ((fsz E : Int) + 1))])) := ⟨_, rfl⟩
    rw [← eh] at hr
    have hfr : ∀ c y, ¬ c = a → ¬ c = ia → h[c]? = some y → h'[c]? = some y := fun c y c1 c2 hy => by
      rw [eh, js_set_ne (fun e => c1 e.symm), js_set_ne (fun e => c2 e.symm)]
      exact hy
    have q : ∀ c y, zc (bX X a ka ia) c → h[c]? = some y → zc (bX X a ka ia) c ∧ h'[c]? = some y := fun c y hz hy => ⟨hz, hfr c y (bX_o hz.2.2).2.1 (bX_o hz.2.2).2.2.2 hy⟩
    have e3 : h'[ia]? = some (.inl (4, ic, f')) := by rw [eh, js_set_ne b5]; exact js_set_eq h3
    have e1 : h'[a]? = some (.inr (5, [.int (Int32.ofInt (kd)), .int (Int32.ofInt (0)), .ref (jx_big + 9), .ref ka, .ref ia, .int (Int32.ofInt ((fsz (fapp i c E) : Int)))])) := by
      rw [eh, js_set_eq (show (List.set h ia (.inl (4, ic, f')))[a]? = some _ by rw [js_set_ne (fun e => b5 e.symm)]; exact h1), fsz_app]
      rfl
    have en : ((fsz E : Int)).toNat = fsz E := by omega
    refine ⟨h', ia, ic, f', hr, ⟨⟨b0, b1, b2, b3, b4, b5, b6⟩, bx, e1, hfr ka _ (fun e => b4 e.symm) b6 h2, e3, ⟨by rw [fsz_app]; omega, h4.2⟩, hkc, ?_⟩, hfr, Or.inl ⟨by rw [eh, List.length_set, List.length_set]; exact hN, rfl, rfl, ?_⟩⟩
    · refine vF_app _ _ _ _ _ (vF_upd _ _ f g _ _ _ (fun k k1 k2 => ⟨?_, fun _ => rfl⟩) (vF_fr q _ _ _ _ _ h6)) ⟨b, ?_, vN_fr q hv⟩ (fun z => ?_)
      · rw [ef, en]
        exact if_neg (by omega)
      · rw [ef, en]
        exact if_pos (by omega)
      · obtain ⟨b', c1, c2⟩ := (hk (of_decide_eq_true z)).2
        exact ⟨b', by rw [Nat.zero_add]; exact c1, vNd_fr q (fun _ _ h => h) c2⟩
    · rw [eh, cvol_sO (by rw [js_set_ne (fun e => b5 e.symm)]; exact h1), cvol_sA h3]
  · have hs : fsz E = ic := by omega
    obtain ⟨w, ew⟩ : ∃ w : Nat, w = (2 * (ic : Int) + 2).toNat := ⟨_, rfl⟩
    have hw2 : w = 2 * ic + 2 := by omega
    have q0 : ∀ (z : jx_C) (c : Nat) (y : jx_C), h[c]? = some y → (h ++ [z])[c]? = some y := fun z c y hy => by
      rw [List.getElem?_append_left (List.getElem?_eq_some_iff.mp hy).1]
      exact hy
    obtain ⟨f0, ef0⟩ : ∃ f0, f0 = va_cpy f (fun _ => .null) (0 : Int).toNat (0 : Int).toNat ((ic : Int)).toNat := ⟨_, rfl⟩
    have hr := jc_addW (β := β) (d := d) (κ := κ) (t := jx_big + 9) (kd := kd) (nm := 0) (ka := ka) hl hN hb32 (v := b) ⟨by omega, by omega, h1⟩ ⟨by omega, by omega, h3⟩ b5 hs (by omega) (fun j hj => ?_) ?_
    · rw [← ef0, ← ew] at hr
      obtain ⟨f', ef⟩ : ∃ f', f' = updV f0 ((fsz E : Int)).toNat (.ref b) := ⟨_, rfl⟩
      rw [← ef] at hr
      obtain ⟨h0, eh0⟩ : ∃ h0 : jx_H, h0 = List.set (h ++ [.inl (4, w, f0)]) a (.inr (5, [.int (Int32.ofInt (kd)), .int (Int32.ofInt (0)), .ref (jx_big + 9), .ref ka, .ref N, .int (Int32.ofInt ((fsz E : Int)))])) := ⟨_, rfl⟩
      rw [← eh0] at hr
      obtain ⟨h', eh⟩ : ∃ h' : jx_H, h' = List.set (List.set h0 N (.inl (4, w, f'))) a (.inr (5, [.int (Int32.ofInt (kd)), .int (Int32.ofInt (0)), .ref (jx_big + 9), .ref ka, .ref N, .int (Int32.ofInt ((fsz E : Int) + 1))])) := ⟨_, rfl⟩
      rw [← eh] at hr
      have g1 : h0[a]? = some (.inr (5, [.int (Int32.ofInt (kd)), .int (Int32.ofInt (0)), .ref (jx_big + 9), .ref ka, .ref N, .int (Int32.ofInt ((fsz E : Int)))])) := by rw [eh0]; exact js_set_eq (q0 _ _ _ h1)
      have g3 : h0[N]? = some (.inl (4, w, f0)) := by
        rw [eh0, js_set_ne (by omega), List.getElem?_append_right (by omega), hN, Nat.sub_self]
        rfl
      have hfr : ∀ c y, ¬ c = a → ¬ c = ia → h[c]? = some y → h'[c]? = some y := fun c y c1 c2 hy => by
        have := (List.getElem?_eq_some_iff.mp hy).1
        rw [eh, js_set_ne (fun e => c1 e.symm), js_set_ne (by omega), eh0, js_set_ne (fun e => c1 e.symm)]
        exact q0 _ _ _ hy
      have q : ∀ c y, zc (bX X a ka ia) c → h[c]? = some y → zc (bX X a ka N) c ∧ h'[c]? = some y := fun c y hz hy => by
        have := (List.getElem?_eq_some_iff.mp hy).1
        obtain ⟨x1, x2, x3, x4⟩ := bX_o hz.2.2
        exact ⟨⟨hz.1, hz.2.1, bX_i x1 x2 x3 (by omega)⟩, hfr c y x2 x4 hy⟩
      have e3 : h'[N]? = some (.inl (4, w, f')) := by rw [eh, js_set_ne (by omega)]; exact js_set_eq g3
      have g4 : (List.set h0 N (.inl (4, w, f')))[a]? = some (.inr (5, [.int (Int32.ofInt (kd)), .int (Int32.ofInt (0)), .ref (jx_big + 9), .ref ka, .ref N, .int (Int32.ofInt ((fsz E : Int)))])) := by rw [js_set_ne (by omega)]; exact g1
      have e1 : h'[a]? = some (.inr (5, [.int (Int32.ofInt (kd)), .int (Int32.ofInt (0)), .ref (jx_big + 9), .ref ka, .ref N, .int (Int32.ofInt ((fsz (fapp i c E) : Int)))])) := by
        rw [eh, js_set_eq g4, fsz_app]
        rfl
      have en : ((fsz E : Int)).toNat = fsz E := by omega
      have ei : ((ic : Int)).toNat = ic := by omega
      refine ⟨h', N, w, f', hr, ⟨⟨b0, b1, b2, by omega, b4, by omega, by omega⟩, bx, e1, hfr ka _ (fun e => b4 e.symm) b6 h2, e3, ⟨by rw [fsz_app]; omega, by omega⟩, hkc, ?_⟩, hfr, Or.inr ⟨by rw [eh, List.length_set, List.length_set, eh0, List.length_set, List.length_append]; show h.length + 1 = N + 1; omega, hw2, hs.symm, ?_, rfl⟩⟩
      · refine vF_app _ _ _ _ _ (vF_upd _ _ f g _ _ _ (fun k k1 k2 => ⟨?_, fun _ => rfl⟩) (vF_fr q _ _ _ _ _ h6)) ⟨b, ?_, vN_fr q hv⟩ (fun z => ?_)
        · rw [ef, en]
          refine (if_neg (by omega)).trans ?_
          rw [ef0, ei]
          refine (if_pos ⟨by show 0 ≤ k; omega, by show k < 0 + ic; omega⟩).trans ?_
          show f (0 + (k - 0)) = f k
          rw [Nat.sub_zero, Nat.zero_add]
        · rw [ef, en]
          exact if_pos (by omega)
        · obtain ⟨b', c1, c2⟩ := (hk (of_decide_eq_true z)).2
          exact ⟨b', by rw [Nat.zero_add]; exact c1, vNd_fr q (fun _ _ h => h) c2⟩
      · rw [eh, cvol_sO g4, cvol_sA g3, eh0, cvol_sO (q0 _ _ _ h1), cvol_app]
        show cvol h + (w + 0) = _
        omega
    · exact vF_cls (by rw [List.length_append]; omega) _ _ _ _ _ (vF_fr (fun c y hz hy => ⟨hz, q0 _ c y hy⟩) _ _ _ _ _ h6) j (by omega) (by omega)
    · refine vN_cls (X := bX X a ka ia) (P := fun _ _ => True) (i := i) (sz := fsz c) (by rw [List.length_set, List.length_append]; omega) (vNd_fr (fun c y hz hy => ⟨hz, ?_⟩) (fun _ _ _ => trivial) hv)
      rw [js_set_ne (fun e => (bX_o hz.2.2).2.1 e.symm)]
      exact q0 _ c y hy

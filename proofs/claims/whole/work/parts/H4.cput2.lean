/-! ===== the class: put into an object under construction (printed by program: gen86.py) ===== -/
theorem vF_clsK {β : Bool} {h : jx_H} {κ : mS} {X : Nat → Prop} (hl : 50 ≤ h.length) : ∀ (F : FT) (f g : Nat → Value) (j : Nat), vF h X F true f g j → ∀ k, j ≤ k → k < j + fsz F → ∃ a, g k = .ref a ∧ jx_cls (jz β) (cl_mk h κ) a = some 5
  | .leaf, _, _, j, _, k, k1, k2 => by
    have : k < j + 0 := k2
    omega
  | .inner _ i _ c n, f, g, j, hv, k, k1, k2 => by
    have k2 : k < j + (fsz n + 1) := k2
    by_cases e : k = j
    · subst e
      obtain ⟨a, a1, a2⟩ := hv.2.1 rfl
      exact ⟨a, a1, vN_cls hl a2⟩
    · exact vF_clsK hl n f g (j + 1) hv.2.2 k (by omega) (by omega)
theorem ofT_vN {h : jx_H} {N t : Nat} {X : Nat → Prop} {s : List Int} (hl : 50 ≤ h.length) (hN : h.length = N) (hb32 : N < 3000000000) (hx : ∀ c, N ≤ c → ¬ X c) (ht : strR h X t s) : vNd (h ++ [.inr (5, [.int (Int32.ofInt (4)), .int (Int32.ofInt (0)), .ref t, .ref (N + 1), .ref (N + 2), .int (Int32.ofInt (0))]), .inl (4, 0, fun _ => .null), .inl (4, 0, fun _ => .null)]) X N (4, 0, s, []) 0 (fun _ _ => True) := by
  have e : ∀ (j : Nat) (y : jx_C), ([.inr (5, [.int (Int32.ofInt (4)), .int (Int32.ofInt (0)), .ref t, .ref (N + 1), .ref (N + 2), .int (Int32.ofInt (0))]), .inl (4, 0, fun _ => .null), .inl (4, 0, fun _ => .null)] : List jx_C)[j]? = some y → (h ++ [.inr (5, [.int (Int32.ofInt (4)), .int (Int32.ofInt (0)), .ref t, .ref (N + 1), .ref (N + 2), .int (Int32.ofInt (0))]), .inl (4, 0, fun _ => .null), .inl (4, 0, fun _ => .null)] : jx_H)[N + j]? = some y := fun j y hy => by
    rw [List.getElem?_append_right (by omega), hN, Nat.add_sub_cancel_left]
    exact hy
  exact ⟨⟨by omega, by omega, hx N (Nat.le_refl _)⟩, t, N + 1, N + 2, 0, 0, fun _ => .null, fun _ => .null, ⟨by omega, by omega, hx _ (by omega)⟩, ⟨by omega, by omega, hx _ (by omega)⟩, e 0 _ rfl, strR_fr ext_q ht, e 1 _ rfl, e 2 _ rfl, ⟨Nat.zero_le _, by omega⟩, Or.inr ⟨show ¬ ((4 : Int) = 6) by decide, rfl⟩, trivial⟩
theorem jc_putK {β : Bool} {d : Nat} {h : jx_H} {κ : mS} (hl : 50 ≤ h.length) {N : Nat} (hN : h.length = N) (hb32 : N < 2900000000) {X : Nat → Prop} {N0 a ka ia kc ic b t : Nat} {f g : Nat → Value} {E : FT} {i : tI} {c : FT} {s : List Int} (hb : bL h X N0 a ka ia kc ic f g 6 E) (hsz : fsz E ≤ 1000) (hw : fwf E) (hv : vN h (bX X a ka ia) b i c) (ht : strR h (bX X a ka ia) t s) (hs : tx s) : ∃ (h2 : jx_H) (ka' kc' : Nat) (g2 : Nat → Value), bL h2 X N0 a ka' ia kc' ic f g2 6 E ∧ (fsz E < kc' ∧ ∃ b', g2 (fsz E) = .ref b' ∧ vNd h2 (bX X a ka' ia) b' (4, 0, s, []) 0 (fun _ _ => True)) ∧ vN h2 (bX X a ka' ia) b i c ∧ (∀ c y, ¬ c = a → ¬ c = ka → h[c]? = some y → h2[c]? = some y) ∧ (∀ h3 : jx_H, jx_r (jz β) jw_M (d + 1) 94 (0, [some (.ref a), some (.ref b)], [], (cl_mk h2 κ)) (cl_mk h3 (κ), .inl none) → jx_r (jz β) jw_M (d + 2) 100 (49, [some (.ref a), some (.ref t), some (.ref b), some (.int (Int32.ofInt ((fsz E : Int))))], [], (cl_mk h κ)) (cl_mk h3 (κ), .inl none)) ∧ ((h2.length = N + 3 ∧ kc' = kc ∧ cvol h2 = cvol h + 6) ∨ (h2.length = N + 4 ∧ kc' = 2 * kc + 2 ∧ kc = fsz E ∧ cvol h2 = cvol h + (2 * kc + 2) + 6)) := by
  obtain ⟨⟨b0, b1, b2, b3, b4, b5, b6⟩, bx, h1, h2, h3, h4, h5, h6⟩ := hb
  have l1 := (List.getElem?_eq_some_iff.mp h1).1
  have l2 := (List.getElem?_eq_some_iff.mp h2).1
  have l3 := (List.getElem?_eq_some_iff.mp h3).1
  have h5 : fsz E ≤ kc ∧ kc ≤ 5000 := by
    rcases h5 with h5 | h5
    · exact h5.2
    · exact absurd rfl h5.1
  have en : ((fsz E : Int)).toNat = fsz E := by omega
  have ei : ((kc : Int)).toNat = kc := by omega
  by_cases hlt : fsz E < kc
  · obtain ⟨g2, eg⟩ : ∃ g2, g2 = updV g ((fsz E : Int)).toNat (.ref N) := ⟨_, rfl⟩
    obtain ⟨h', eh⟩ : ∃ h' : jx_H, h' = List.set (h ++ [.inr (5, [.int (Int32.ofInt (4)), .int (Int32.ofInt (0)), .ref t, .ref (N + 1), .ref (N + 2), .int (Int32.ofInt (0))]), .inl (4, 0, fun _ => .null), .inl (4, 0, fun _ => .null)]) ka (.inl (4, kc, g2)) := ⟨_, rfl⟩
    have hr : ∀ h3 : jx_H, jx_r (jz β) jw_M (d + 1) 94 (0, [some (.ref a), some (.ref b)], [], (cl_mk h' κ)) (cl_mk h3 (κ), .inl none) → jx_r (jz β) jw_M (d + 2) 100 (49, [some (.ref a), some (.ref t), some (.ref b), some (.int (Int32.ofInt ((fsz E : Int))))], [], (cl_mk h κ)) (cl_mk h3 (κ), .inl none) := by
      intro h3' q
      rw [eh, eg] at q
      exact jc_putN hl hN (by omega) ⟨by omega, h1⟩ ⟨by omega, h2⟩ ⟨by omega, by omega, by omega⟩ ⟨hlt, by omega⟩ b4 q
    have hfr : ∀ c y, ¬ c = a → ¬ c = ka → h[c]? = some y → h'[c]? = some y := fun c y c1 c2 hy => by
      rw [eh, js_set_ne (fun e => c2 e.symm), List.getElem?_append_left (List.getElem?_eq_some_iff.mp hy).1]
      exact hy
    have q : ∀ c y, zc (bX X a ka ia) c → h[c]? = some y → zc (bX X a ka ia) c ∧ h'[c]? = some y := fun c y hz hy => ⟨hz, hfr c y (bX_o hz.2.2).2.1 (bX_o hz.2.2).2.2.1 hy⟩
    have q2 : ∀ c y, zc (bX X a ka ia) c → (h ++ [.inr (5, [.int (Int32.ofInt (4)), .int (Int32.ofInt (0)), .ref t, .ref (N + 1), .ref (N + 2), .int (Int32.ofInt (0))]), .inl (4, 0, fun _ => .null), .inl (4, 0, fun _ => .null)] : jx_H)[c]? = some y → zc (bX X a ka ia) c ∧ h'[c]? = some y := fun c y hz hy => ⟨hz, by
      rw [eh, js_set_ne (fun e => (bX_o hz.2.2).2.2.1 e.symm)]
      exact hy⟩
    refine ⟨h', ka, kc, g2, ⟨⟨b0, b1, b2, b3, b4, b5, b6⟩, bx, ?_, ?_, hfr ia _ (fun e => b5 e.symm) (fun e => b6 e.symm) h3, h4, Or.inl ⟨rfl, h5⟩, ?_⟩, ⟨hlt, N, ?_, ?_⟩, vN_fr q hv, hfr, hr, Or.inl ⟨?_, rfl, ?_⟩⟩
    · rw [eh, js_set_ne (fun e => b4 e.symm), List.getElem?_append_left l1]
      exact h1
    · rw [eh]
      exact js_set_eq (by rw [List.getElem?_append_left l2]; exact h2)
    · refine vF_upd _ _ f g _ _ _ (fun k k1 k2 => ⟨rfl, fun _ => ?_⟩) (vF_fr q _ _ _ _ _ h6)
      rw [eg, en]
      exact if_neg (by omega)
    · rw [eg, en]
      exact if_pos rfl
    · exact vNd_fr q2 (fun _ _ h => h) (ofT_vN hl hN (by omega) (fun c hc => bX_i (bx c (by omega)) (by omega) (by omega) (by omega)) ht)
    · rw [eh, List.length_set, List.length_append]
      show h.length + 3 = _
      omega
    · rw [eh, cvol_sA (by rw [List.getElem?_append_left l2]; exact h2), cvol_app]
      rfl
  · have hsk : fsz E = kc := by omega
    obtain ⟨w, ew⟩ : ∃ w : Nat, w = (2 * (kc : Int) + 2).toNat := ⟨_, rfl⟩
    have hw2 : w = 2 * kc + 2 := by omega
    obtain ⟨g0, eg0⟩ : ∃ g0, g0 = va_cpy g (fun _ => .null) (0 : Int).toNat (0 : Int).toNat ((kc : Int)).toNat := ⟨_, rfl⟩
    obtain ⟨g2, eg⟩ : ∃ g2, g2 = updV g0 ((fsz E : Int)).toNat (.ref (N + 1)) := ⟨_, rfl⟩
    obtain ⟨h0, eh0⟩ : ∃ h0 : jx_H, h0 = (List.set (h ++ [.inl (4, w, g0)]) a (.inr (5, [.int (Int32.ofInt (6)), .int (Int32.ofInt (0)), .ref (jx_big + 9), .ref N, .ref ia, .int (Int32.ofInt ((fsz E : Int)))]))) := ⟨_, rfl⟩
    have h0l : h0.length = N + 1 := by
      rw [eh0, List.length_set, List.length_append]
      show h.length + 1 = _
      omega
    have q0 : ∀ (z : jx_C) (c : Nat) (y : jx_C), h[c]? = some y → (h ++ [z])[c]? = some y := fun z c y hy => by
      rw [List.getElem?_append_left (List.getElem?_eq_some_iff.mp hy).1]
      exact hy
    have f0 : ∀ c y, ¬ c = a → h[c]? = some y → h0[c]? = some y := fun c y c1 hy => by
      rw [eh0, js_set_ne (fun e => c1 e.symm)]
      exact q0 _ _ _ hy
    have g01 : h0[a]? = some (.inr (5, [.int (Int32.ofInt (6)), .int (Int32.ofInt (0)), .ref (jx_big + 9), .ref N, .ref ia, .int (Int32.ofInt ((fsz E : Int)))])) := by rw [eh0]; exact js_set_eq (q0 _ _ _ h1)
    have g03 : h0[N]? = some (.inl (4, w, g0)) := by
      rw [eh0, js_set_ne (by omega), List.getElem?_append_right (by omega), hN, Nat.sub_self]
      rfl
    obtain ⟨h', eh⟩ : ∃ h' : jx_H, h' = List.set (h0 ++ [.inr (5, [.int (Int32.ofInt (4)), .int (Int32.ofInt (0)), .ref t, .ref (N + 1 + 1), .ref (N + 1 + 2), .int (Int32.ofInt (0))]), .inl (4, 0, fun _ => .null), .inl (4, 0, fun _ => .null)]) N (.inl (4, w, g2)) := ⟨_, rfl⟩
    have hr : ∀ h3 : jx_H, jx_r (jz β) jw_M (d + 1) 94 (0, [some (.ref a), some (.ref b)], [], (cl_mk h' κ)) (cl_mk h3 (κ), .inl none) → jx_r (jz β) jw_M (d + 2) 100 (49, [some (.ref a), some (.ref t), some (.ref b), some (.int (Int32.ofInt ((fsz E : Int))))], [], (cl_mk h κ)) (cl_mk h3 (κ), .inl none) := by
      intro h3' q
      rw [eh, eg, eh0, eg0, ew] at q
      exact jc_putW hl hN hb32 ⟨by omega, h1⟩ ⟨by omega, h2⟩ ⟨by omega, by omega, by omega⟩ ⟨hsk, by omega⟩ b4 (fun j hj => vF_clsK (by rw [List.length_append]; omega) _ _ _ _ (vF_fr (fun c y hz hy => ⟨hz, q0 _ c y hy⟩) _ _ _ _ _ h6) j (by omega) (by omega)) q
    have q1 : ∀ (c : Nat) (y : jx_C), ¬ c = N → h0[c]? = some y → h'[c]? = some y := fun c y c1 hy => by
      rw [eh, js_set_ne (fun e => c1 e.symm), List.getElem?_append_left (List.getElem?_eq_some_iff.mp hy).1]
      exact hy
    have hfr : ∀ c y, ¬ c = a → ¬ c = ka → h[c]? = some y → h'[c]? = some y := fun c y c1 c2 hy => by
      have := (List.getElem?_eq_some_iff.mp hy).1
      exact q1 c y (by omega) (f0 c y c1 hy)
    have zq : ∀ (c : Nat) (y : jx_C), zc (bX X a ka ia) c → h[c]? = some y → zc (bX X a N ia) c := fun c y hz hy => by
      have := (List.getElem?_eq_some_iff.mp hy).1
      obtain ⟨x1, x2, x3, x4⟩ := bX_o hz.2.2
      exact ⟨hz.1, hz.2.1, bX_i x1 x2 (by omega) x4⟩
    have q : ∀ c y, zc (bX X a ka ia) c → h[c]? = some y → zc (bX X a N ia) c ∧ h'[c]? = some y := fun c y hz hy => ⟨zq c y hz hy, hfr c y (bX_o hz.2.2).2.1 (bX_o hz.2.2).2.2.1 hy⟩
    have q2 : ∀ c y, zc (bX X a N ia) c → (h0 ++ [.inr (5, [.int (Int32.ofInt (4)), .int (Int32.ofInt (0)), .ref t, .ref (N + 1 + 1), .ref (N + 1 + 2), .int (Int32.ofInt (0))]), .inl (4, 0, fun _ => .null), .inl (4, 0, fun _ => .null)] : jx_H)[c]? = some y → zc (bX X a N ia) c ∧ h'[c]? = some y := fun c y hz hy => ⟨hz, by
      rw [eh, js_set_ne (fun e => (bX_o hz.2.2).2.2.1 e.symm)]
      exact hy⟩
    refine ⟨h', N, w, g2, ⟨⟨b0, b1, by omega, b3, by omega, b5, by omega⟩, bx, q1 a _ (by omega) g01, ?_, hfr ia _ (fun e => b5 e.symm) (fun e => b6 e.symm) h3, h4, Or.inl ⟨rfl, by omega, by omega⟩, ?_⟩, ⟨by omega, N + 1, ?_, ?_⟩, vN_fr q hv, hfr, hr, Or.inr ⟨?_, hw2, hsk.symm, ?_⟩⟩
    · rw [eh]
      exact js_set_eq (by rw [List.getElem?_append_left (by omega)]; exact g03)
    · refine vF_upd _ _ f g _ _ _ (fun k k1 k2 => ⟨rfl, fun _ => ?_⟩) (vF_fr q _ _ _ _ _ h6)
      rw [eg, en]
      refine (if_neg (by omega)).trans ?_
      rw [eg0, ei]
      refine (if_pos ⟨by show 0 ≤ k; omega, by show k < 0 + kc; omega⟩).trans ?_
      show g (0 + (k - 0)) = g k
      rw [Nat.sub_zero, Nat.zero_add]
    · rw [eg, en]
      exact if_pos rfl
    · refine vNd_fr q2 (fun _ _ h => h) (ofT_vN (by omega) h0l (by omega) (fun c hc => bX_i (bx c (by omega)) (by omega) (by omega) (by omega)) (strR_fr (fun c y hz hy => ⟨zq c y hz hy, f0 c y (bX_o hz.2.2).2.1 hy⟩) ht))
    · rw [eh, List.length_set, List.length_append, h0l]
      rfl
    · rw [eh, cvol_sA (by rw [List.getElem?_append_left (by omega)]; exact g03), cvol_app, eh0, cvol_sO (q0 _ _ _ h1), cvol_app]
      show cvol h + (w + 0) + 6 = _
      omega
theorem jc_put {β : Bool} {d : Nat} {h : jx_H} {κ : mS} (hl : 50 ≤ h.length) {N : Nat} (hN : h.length = N) (hb32 : N < 2900000000) {X : Nat → Prop} {N0 a ka ia kc ic b t : Nat} {f g : Nat → Value} {E : FT} {i : tI} {c : FT} {s : List Int} (hb : bL h X N0 a ka ia kc ic f g 6 E) (hsz : fsz E ≤ 1000) (hw : fwf E) (hv : vN h (bX X a ka ia) b i c) (ht : strR h (bX X a ka ia) t s) (hs : tx s) : ∃ (h' : jx_H) (ka' ia' kc' ic' : Nat) (f' g' : Nat → Value), jx_r (jz β) jw_M (d + 2) 100 (0, [some (.ref a), some (.ref t), some (.ref b), none], [], (cl_mk h κ)) (cl_mk h' (κ), .inl none) ∧ bL h' X N0 a ka' ia' kc' ic' f' g' 6 (fput true (wk i s) c E) ∧ (∀ c y, ¬ c = a → ¬ c = ka → ¬ c = ia → h[c]? = some y → h'[c]? = some y) ∧ (N ≤ h'.length ∧ h'.length ≤ N + 5) ∧ cvol h' + 2 * ic + 2 * kc ≤ cvol h + 2 * ic' + 2 * kc' + 6 ∧ (ic ≤ 2 * fsz E → ic' ≤ 2 * fsz (fput true (wk i s) c E)) ∧ (kc ≤ 2 * fsz E → kc' ≤ 2 * fsz (fput true (wk i s) c E)) ∧ fsz (fput true (wk i s) c E) ≤ fsz E + 1 := by
  have hb' := hb
  obtain ⟨⟨b0, b1, b2, b3, b4, b5, b6⟩, bx, h1, h2, h3, h4, h5, h6⟩ := hb'
  have l1 := (List.getElem?_eq_some_iff.mp h1).1
  have l2 := (List.getElem?_eq_some_iff.mp h2).1
  have l3 := (List.getElem?_eq_some_iff.mp h3).1
  have h5 : fsz E ≤ kc ∧ kc ≤ 5000 := by
    rcases h5 with h5 | h5
    · exact h5.2
    · exact absurd rfl h5.1
  obtain ⟨p1, p2⟩ := jc_putL (β := β) (d := d) (κ := κ) hl ⟨by omega, h1⟩ ⟨by omega, h2⟩ ⟨by omega, h3⟩ ⟨by omega, by omega, by omega⟩ ⟨h5.1, h5.2, h4.1, h4.2⟩ ht hs hv E 0 h6 hw (by omega)
  have en0 : ∀ res, jx_r (jz β) jw_M (d + 2) 100 (2, [some (.ref a), some (.ref t), some (.ref b), some (.int (Int32.ofInt (((0 : Nat) : Int))))], [], (cl_mk h κ)) res → jx_r (jz β) jw_M (d + 2) 100 (0, [some (.ref a), some (.ref t), some (.ref b), none], [], (cl_mk h κ)) res := by
    intro res hr
    refine jr_1 jm_100 (show jw_cd cd_100 0 = some (.iconst 0) by decide +kernel) rfl ?_
    refine jr_1 jm_100 (F2 := (2, [some (.ref a), some (.ref t), some (.ref b), some (.int (Int32.ofInt (0)))], [], (cl_mk h κ))) (show jw_cd cd_100 1 = some (.istore_n 3) by decide +kernel) rfl ?_
    exact hr
  by_cases hg : (fget s E).isSome = true
  · have ep : fput true (wk i s) c E = frep (wk i s) c E := if_pos ⟨rfl, hg⟩
    have es : fsz (frep (wk i s) c E) = fsz E := fsz_rep _ _ _
    obtain ⟨m, m1, m2, m3, m4⟩ := p1 hg
    obtain ⟨f', ef⟩ : ∃ f', f' = updV f ((m : Int)).toNat (.ref b) := ⟨_, rfl⟩
    rw [← ef] at m3 m4
    have q : ∀ c y, zc (bX X a ka ia) c → h[c]? = some y → zc (bX X a ka ia) c ∧ (List.set h ia (.inl (4, ic, f')))[c]? = some y := fun c y hz hy => ⟨hz, by
      rw [js_set_ne (fun e => (bX_o hz.2.2).2.2.2 e.symm)]
      exact hy⟩
    rw [ep, es]
    refine ⟨List.set h ia (.inl (4, ic, f')), ka, ia, kc, ic, f', g, en0 _ m3, ⟨⟨b0, b1, b2, b3, b4, b5, b6⟩, bx, ?_, ?_, js_set_eq h3, ⟨by rw [es]; exact h4.1, h4.2⟩, Or.inl ⟨rfl, by rw [es]; exact h5.1, h5.2⟩, vF_fr q _ _ _ _ _ m4⟩, fun c y c1 c2 c3 hy => ?_, ⟨by rw [List.length_set]; omega, by rw [List.length_set]; omega⟩, ?_, fun h => h, fun h => h, by omega⟩
    · rw [js_set_ne (fun e => b5 e.symm), es]
      exact h1
    · rw [js_set_ne (fun e => b6 e.symm)]
      exact h2
    · rw [js_set_ne (fun e => c3 e.symm)]
      exact hy
    · rw [cvol_sA h3]
      omega
  · have ep : fput true (wk i s) c E = fapp (wk i s) c E := if_neg (fun z => hg z.2)
    have es : fsz (fapp (wk i s) c E) = fsz E + 1 := fsz_app _ _ _
    obtain ⟨h2', ka', kc', g2, k1, k2, k3, k4, k5, k6⟩ := jc_putK (β := β) (d := d) (κ := κ) hl hN hb32 hb hsz hw hv ht hs
    have hl2 : N + 3 ≤ h2'.length ∧ h2'.length ≤ N + 4 := by
      rcases k6 with k6 | k6
      · omega
      · omega
    obtain ⟨h3', ia', ic', f', r1, r2, r3, r4⟩ := jc_add (β := β) (d := d) (κ := κ) (h := h2') (i := wk i s) (by omega) rfl (by omega) k1 (by omega) k3 (fun _ => k2)
    rw [ep, es]
    refine ⟨h3', ka', ia', kc', ic', f', g2, en0 _ (p2 hg _ (k5 _ r1)), r2, fun c y c1 c2 c3 hy => r3 c y c1 c3 (k4 c y c1 c2 hy), ?_, ?_, ?_, ?_, Nat.le_refl _⟩
    · rcases r4 with r4 | r4
      · omega
      · omega
    · rcases r4 with r4 | r4
      · rcases k6 with k6 | k6
        · omega
        · omega
      · rcases k6 with k6 | k6
        · omega
        · omega
    · intro hh
      rcases r4 with r4 | r4
      · omega
      · omega
    · intro hh
      rcases k6 with k6 | k6
      · omega
      · omega

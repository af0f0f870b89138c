/-! ===== what is read back of a packed text ===== -/
def tx (l : List Int) : Prop := l.length ≤ 7 ∧ ∀ c ∈ l, 1 ≤ c ∧ c ≤ 127
theorem p2_pos (s : Nat) : (0 : Int) < 2 ^ s := Int.pow_pos (by decide)
theorem p2_add (a b : Nat) : (2 : Int) ^ (a + b) = 2 ^ a * 2 ^ b := Int.pow_add 2 a b
theorem pkA_b : ∀ (l : List Int) (i : Nat), i + l.length ≤ 7 → (∀ c ∈ l, 0 ≤ c ∧ c ≤ 127) → 0 ≤ pkA i l ∧ pkA i l < 2 ^ (7 * (7 - i))
  | [], i, _, _ => ⟨Int.le_refl 0, p2_pos _⟩
  | c :: l, i, h, hc => by
    have h : i + (l.length + 1) ≤ 7 := h
    obtain ⟨h1, h2⟩ := pkA_b l (i + 1) (by omega) (fun c hh => hc c (List.mem_cons_of_mem _ hh))
    obtain ⟨c1, c2⟩ := hc c List.mem_cons_self
    have e : (2 : Int) ^ (7 * (7 - i)) = 128 * 2 ^ (7 * (6 - i)) := by
      rw [show 7 * (7 - i) = 7 + 7 * (6 - i) by omega, p2_add]
      rfl
    have e2 : 7 * (7 - (i + 1)) = 7 * (6 - i) := by omega
    rw [e2] at h2
    have hp := p2_pos (7 * (6 - i))
    have hm : 0 ≤ c * 2 ^ (7 * (6 - i)) := Int.mul_nonneg c1 (Int.le_of_lt hp)
    have hm2 : c * 2 ^ (7 * (6 - i)) ≤ 127 * 2 ^ (7 * (6 - i)) := Int.mul_le_mul_of_nonneg_right c2 (Int.le_of_lt hp)
    show 0 ≤ c * 2 ^ (7 * (6 - i)) + pkA (i + 1) l ∧ c * 2 ^ (7 * (6 - i)) + pkA (i + 1) l < _
    rw [e]
    omega
theorem pkA_dig : ∀ (l : List Int) (i k : Nat), i + l.length ≤ 7 → (∀ c ∈ l, 0 ≤ c ∧ c ≤ 127) → i ≤ k → k ≤ 6 → pkA i l / 2 ^ (7 * (6 - k)) % 128 = l.getD (k - i) 0
  | [], i, k, _, _, _, _ => by
    show (0 : Int) / _ % 128 = _
    simp
  | c :: l, i, k, h, hc, hik, hk => by
    have h : i + (l.length + 1) ≤ 7 := h
    obtain ⟨h1, h2⟩ := pkA_b l (i + 1) (by omega) (fun c hh => hc c (List.mem_cons_of_mem _ hh))
    obtain ⟨c1, c2⟩ := hc c List.mem_cons_self
    rw [show 7 * (7 - (i + 1)) = 7 * (6 - i) by omega] at h2
    show (c * 2 ^ (7 * (6 - i)) + pkA (i + 1) l) / 2 ^ (7 * (6 - k)) % 128 = _
    by_cases hki : k = i
    · subst hki
      rw [Nat.sub_self, Int.add_comm, Int.add_mul_ediv_right _ _ (Int.ne_of_gt (p2_pos _)), Int.ediv_eq_zero_of_lt h1 h2]
      show (0 + c) % 128 = c
      omega
    · have e : (2 : Int) ^ (7 * (6 - i)) = (128 * 2 ^ (7 * (k - i - 1))) * 2 ^ (7 * (6 - k)) := by
        rw [show 7 * (6 - i) = 7 + 7 * (k - i - 1) + 7 * (6 - k) by omega, p2_add, p2_add]
        rfl
      rw [e, ← Int.mul_assoc, Int.add_comm, Int.add_mul_ediv_right _ _ (Int.ne_of_gt (p2_pos _)), Int.mul_left_comm, Int.add_mul_emod_self_left, pkA_dig l (i + 1) k (by omega) (fun c hh => hc c (List.mem_cons_of_mem _ hh)) (by omega) hk]
      rw [show k - i = (k - (i + 1)) + 1 by omega]
      rfl
theorem tx_0 {l : List Int} (h : tx l) : ∀ c ∈ l, 0 ≤ c ∧ c ≤ 127 := fun c hc => by
  have := h.2 c hc
  omega
theorem pk_b {l : List Int} (h : tx l) : 0 ≤ pk l ∧ pk l < 2 ^ 49 := pkA_b l 0 (by have := h.1; omega) (tx_0 h)
theorem pk_dig {l : List Int} (h : tx l) {k : Nat} (hk : k ≤ 6) : pk l / 2 ^ (7 * (6 - k)) % 128 = l.getD k 0 := by
  have e := pkA_dig l 0 k (by have := h.1; omega) (tx_0 h) (Nat.zero_le k) hk
  rw [Nat.sub_zero] at e
  exact e
theorem pkA_inj : ∀ (l l' : List Int) (i : Nat), i + l.length ≤ 7 → i + l'.length ≤ 7 → (∀ c ∈ l, 1 ≤ c ∧ c ≤ 127) → (∀ c ∈ l', 1 ≤ c ∧ c ≤ 127) → pkA i l = pkA i l' → l = l'
  | [], [], _, _, _, _, _, _ => rfl
  | [], c :: l, i, _, h, _, hc, e => by
    have h : i + (l.length + 1) ≤ 7 := h
    obtain ⟨h1, h2⟩ := pkA_b l (i + 1) (by omega) (fun c hh => by have := hc c (List.mem_cons_of_mem _ hh); omega)
    obtain ⟨c1, c2⟩ := hc c List.mem_cons_self
    have e : 0 = c * 2 ^ (7 * (6 - i)) + pkA (i + 1) l := e
    have := Int.mul_pos (show 0 < c by omega) (p2_pos (7 * (6 - i)))
    omega
  | c :: l, [], i, h, _, hc, _, e => by
    have h : i + (l.length + 1) ≤ 7 := h
    obtain ⟨h1, h2⟩ := pkA_b l (i + 1) (by omega) (fun c hh => by have := hc c (List.mem_cons_of_mem _ hh); omega)
    obtain ⟨c1, c2⟩ := hc c List.mem_cons_self
    have e : c * 2 ^ (7 * (6 - i)) + pkA (i + 1) l = 0 := e
    have := Int.mul_pos (show 0 < c by omega) (p2_pos (7 * (6 - i)))
    omega
  | c :: l, c' :: l', i, h, h', hc, hc', e => by
    have ha : i + (l.length + 1) ≤ 7 := h
    have ha' : i + (l'.length + 1) ≤ 7 := h'
    have d1 := pkA_dig (c :: l) i i h (fun c hh => by have := hc c hh; omega) (Nat.le_refl i) (by omega)
    have d2 := pkA_dig (c' :: l') i i h' (fun c hh => by have := hc' c hh; omega) (Nat.le_refl i) (by omega)
    rw [e, d2, Nat.sub_self] at d1
    have ec : c' = c := d1
    subst ec
    have e : c' * 2 ^ (7 * (6 - i)) + pkA (i + 1) l = c' * 2 ^ (7 * (6 - i)) + pkA (i + 1) l' := e
    rw [pkA_inj l l' (i + 1) (by omega) (by omega) (fun c hh => hc c (List.mem_cons_of_mem _ hh)) (fun c hh => hc' c (List.mem_cons_of_mem _ hh)) (by omega)]
theorem pk_inj {l l' : List Int} (h : tx l) (h' : tx l') : pk l = pk l' ↔ l = l' := ⟨pkA_inj l l' 0 (by have := h.1; omega) (by have := h'.1; omega) h.2 h'.2, fun e => by rw [e]⟩

/-! ===== the model reads keys, numbers, texts (printed by program: gen15.py, mx.py) ===== -/
theorem su_row {σ : mS} {f g : Nat} {i x : Int} (h : ¬ g = f) : su σ f i x g = σ g := funext fun _ => su_nf h
theorem su_2 {σ : mS} {f : Nat} {i x y : Int} : su (su σ f i x) f i y = su σ f i y := by
  funext g j
  unfold su
  by_cases hc : g = f ∧ j = i
  · rw [if_pos hc, if_pos hc]
  · rw [if_neg hc, if_neg hc, if_neg hc]
theorem su_c {σ : mS} {f g : Nat} {i j x y : Int} (h : ¬ f = g) : su (su σ f i x) g j y = su (su σ g j y) f i x := by
  funext k l
  unfold su
  by_cases hc : k = g ∧ l = j
  · rw [if_pos hc, if_pos hc, if_neg (fun e => h (e.1.symm.trans hc.1))]
  · rw [if_neg hc, if_neg hc]
theorem su_4 {σ : mS} {f g : Nat} {i j a b a' b' : Int} (h : ¬ f = g) : su (su (su (su σ f i a) g j b) f i a') g j b' = su (su σ f i a') g j b' := by
  rw [su_c (σ := su σ f i a) (f := g) (g := f) (fun e => h e.symm), su_2, su_2]
/-- the text: its letters, its length, what stands at a place -/
def tH (T : Int → Int) (n p : Int) : Int := if p < n then T p else -1
def tOK (T : Int → Int) (n : Int) : Prop := 0 ≤ n ∧ n ≤ 160 ∧ ∀ i, 0 ≤ i → i < n → 32 ≤ T i ∧ T i ≤ 126
theorem tH_r {T : Int → Int} {n p : Int} (ht : tOK T n) (h0 : 0 ≤ p) : -1 ≤ tH T n p ∧ tH T n p ≤ 126 ∧ (tH T n p = -1 ∨ 32 ≤ tH T n p) ∧ (¬ tH T n p = -1 → p < n) := by
  obtain ⟨h1, h2, h3⟩ := ht
  unfold tH
  split
  · have := h3 p h0 (by omega)
    omega
  · omega
theorem mT_mk {τ : mS} {T : Int → Int} {n p : Int} (ht : tOK T n) (e1 : τ 1 = T) (e2 : τ 2 0 = n) (e3 : τ 28 0 = p) (h0 : 0 ≤ p) (hp : p ≤ n) : mT τ := by
  obtain ⟨h1, h2, h3⟩ := ht
  unfold mT
  rw [e1, e2, e3]
  exact ⟨h0, hp, h1, h2, h3⟩
theorem mHere_mk {τ : mS} {T : Int → Int} {n p : Int} (e1 : τ 1 = T) (e2 : τ 2 0 = n) (e3 : τ 28 0 = p) : mHere τ = tH T n p := by
  unfold mHere tH
  rw [e1, e2, e3]
theorem jn_hereP {β : Bool} {d : Nat} {h : jx_H} {τ : mS} (hl : 49 ≤ h.length) {T : Int → Int} {n p : Int} (ht : tOK T n) (e1 : τ 1 = T) (e2 : τ 2 0 = n) (e3 : τ 28 0 = p) (h0 : 0 ≤ p) (hp : p ≤ n) : jx_r (jz β) jw_M d 215 (0, [some (.ref 15)], [], ml_mk h τ) (ml_mk h τ, .inl (some (.int (Int32.ofInt (tH T n p))))) := by
  rw [← mHere_mk e1 e2 e3]
  exact jn_here hl (mT_mk ht e1 e2 e3 h0 hp)
/-- letters packed, the first one highest -/
def pkA : Nat → List Int → Int
  | _, [] => 0
  | i, c :: l => c * 2 ^ (7 * (6 - i)) + pkA (i + 1) l
def pk (l : List Int) : Int := pkA 0 l
theorem pkA_snoc : ∀ (l : List Int) (i : Nat) (c : Int), pkA i (l ++ [c]) = pkA i l + c * 2 ^ (7 * (6 - (i + l.length)))
  | [], i, c => by simp [pkA]
  | a :: l, i, c => by
    show a * _ + pkA (i + 1) (l ++ [c]) = a * _ + pkA (i + 1) l + _
    rw [pkA_snoc l (i + 1) c, show i + 1 + l.length = i + (a :: l).length by simp; omega, Int.add_assoc]
theorem pk_snoc (l : List Int) (c : Int) : pk (l ++ [c]) = pk l + c * 2 ^ (7 * (6 - l.length)) := by
  unfold pk
  rw [pkA_snoc, Nat.zero_add]
theorem pkA_dvd : ∀ (l : List Int) (i : Nat), i + l.length ≤ 7 → ∃ A : Int, pkA i l = A * 2 ^ (7 * (7 - (i + l.length)))
  | [], i, _ => ⟨0, by simp [pkA]⟩
  | a :: l, i, h => by
    have h : i + (l.length + 1) ≤ 7 := h
    obtain ⟨A, hA⟩ := pkA_dvd l (i + 1) (by omega)
    refine ⟨a * 2 ^ (7 * l.length) + A, ?_⟩
    show a * _ + pkA (i + 1) l = _
    rw [hA, Int.add_mul, Int.mul_assoc, ← Int.pow_add, show i + 1 + l.length = i + (a :: l).length by simp; omega]
    congr 3
    show 7 * (6 - i) = 7 * l.length + 7 * (7 - (i + (l.length + 1)))
    omega
theorem jn_with {β : Bool} {d : Nat} {h : jx_H} {σ : mS} (hl : 49 ≤ h.length) {l : List Int} {m c : Int} (hm : m = l.length) (h6 : l.length ≤ 6) (hc : 0 ≤ c ∧ c < 128) : jx_r (jz β) jw_M (d) 220 (0, [some (.long (Int64.ofInt (pk l))), none, some (.int (Int32.ofInt (m))), some (.int (Int32.ofInt (c)))], [], ml_mk h σ) (ml_mk h (σ), .inl (some (.long (Int64.ofInt (pk (l ++ [c])))))) := by
  obtain ⟨c1, c2⟩ := hc
  obtain ⟨A, hA⟩ := pkA_dvd l 0 (by omega)
  have hA2 : pk l = A * 2 ^ (7 * (6 - l.length) + 7) := by
    unfold pk
    rw [hA]
    congr 2
    omega
  refine jr_1 jm_220 (show jw_cd cd_220 0 = some (.lload_n 0) by decide +kernel) rfl ?_
  refine jr_1 jm_220 (show jw_cd cd_220 1 = some (.iload_n 3) by decide +kernel) rfl ?_
  refine jr_1 jm_220 (show jw_cd cd_220 2 = some (.i2l) by decide +kernel) (mt_i2l ⟨by omega, by omega⟩) ?_
  refine jr_1 jm_220 (show jw_cd cd_220 3 = some (.bipush 7) by decide +kernel) (mt_bi (by decide)) ?_
  refine jr_1 jm_220 (show jw_cd cd_220 5 = some (.bipush 6) by decide +kernel) (mt_bi (by decide)) ?_
  refine jr_1 jm_220 (show jw_cd cd_220 7 = some (.iload_n 2) by decide +kernel) rfl ?_
  refine jr_1 jm_220 (show jw_cd cd_220 8 = some (.isub) by decide +kernel) (mt_sub (c := 6 - m) rfl) ?_
  refine jr_1 jm_220 (show jw_cd cd_220 9 = some (.imul) by decide +kernel) (mt_mul (c := 7 * (6 - m)) rfl) ?_
  refine jr_1 jm_220 (show jw_cd cd_220 10 = some (.lshl) by decide +kernel) (mt_shl (n := m) (r := c * 2 ^ (7 * (6 - l.length))) (by omega) (by omega) rfl (by rw [show m.toNat = l.length by omega])) ?_
  refine jr_1 jm_220 (show jw_cd cd_220 11 = some (.lor) by decide +kernel) (mt_or (A := A) (c := c) (s := 7 * (6 - l.length)) (by omega) (by omega) (by omega) hA2 rfl (pk_snoc l c).symm) ?_
  exact jr_v jm_220 (show jw_cd cd_220 12 = some (.lreturn) by decide +kernel) rfl
theorem jn_isL_t {β : Bool} {d : Nat} {h : jx_H} {σ : mS} (hl : 49 ≤ h.length) {c : Int} (hc : 97 ≤ c ∧ c ≤ 122) : jx_r (jz β) jw_M d 219 (0, [some (.int (Int32.ofInt c))], [], ml_mk h σ) (ml_mk h σ, .inl (some (.int (Int32.ofInt 1)))) := by
  have e := jn_isL (β := β) (d := d) (σ := σ) hl (c := c) ⟨by omega, by omega⟩
  rw [show misL c = 1 from if_pos hc] at e
  exact e
theorem jn_isL_f {β : Bool} {d : Nat} {h : jx_H} {σ : mS} (hl : 49 ≤ h.length) {c : Int} (he : mr c) (hc : ¬ (97 ≤ c ∧ c ≤ 122)) : jx_r (jz β) jw_M d 219 (0, [some (.int (Int32.ofInt c))], [], ml_mk h σ) (ml_mk h σ, .inl (some (.int (Int32.ofInt 0)))) := by
  have e := jn_isL (β := β) (d := d) (σ := σ) hl (c := c) he
  rw [show misL c = 0 from if_neg hc] at e
  exact e
theorem jn_isD_t {β : Bool} {d : Nat} {h : jx_H} {σ : mS} (hl : 49 ≤ h.length) {c : Int} (hc : 48 ≤ c ∧ c ≤ 57) : jx_r (jz β) jw_M d 224 (0, [some (.int (Int32.ofInt c))], [], ml_mk h σ) (ml_mk h σ, .inl (some (.int (Int32.ofInt 1)))) := by
  have e := jn_isD (β := β) (d := d) (σ := σ) hl (c := c) ⟨by omega, by omega⟩
  rw [show misD c = 1 from if_pos hc] at e
  exact e
theorem jn_isD_f {β : Bool} {d : Nat} {h : jx_H} {σ : mS} (hl : 49 ≤ h.length) {c : Int} (he : mr c) (hc : ¬ (48 ≤ c ∧ c ≤ 57)) : jx_r (jz β) jw_M d 224 (0, [some (.int (Int32.ofInt c))], [], ml_mk h σ) (ml_mk h σ, .inl (some (.int (Int32.ofInt 0)))) := by
  have e := jn_isD (β := β) (d := d) (σ := σ) hl (c := c) he
  rw [show misD c = 0 from if_neg hc] at e
  exact e
/-- the letters from a place on that are of a sort, at most so many -/
def spn (P : Int → Bool) (T : Int → Int) (n : Int) : Nat → Int → List Int
  | 0, _ => []
  | k + 1, p => if P (tH T n p) = true then tH T n p :: spn P T n k (p + 1) else []
theorem spn_t {P : Int → Bool} {T : Int → Int} {n p : Int} {k : Nat} (h : P (tH T n p) = true) : spn P T n (k + 1) p = tH T n p :: spn P T n k (p + 1) := if_pos h
theorem spn_f {P : Int → Bool} {T : Int → Int} {n p : Int} {k : Nat} (h : ¬ P (tH T n p) = true) : spn P T n (k + 1) p = [] := if_neg h
def pL (c : Int) : Bool := decide (97 ≤ c ∧ c ≤ 122)
def pD (c : Int) : Bool := decide (48 ≤ c ∧ c ≤ 57)
def pX (c : Int) : Bool := decide (¬ c = -1 ∧ ¬ c = 39)
theorem jn_rk_loop {β : Bool} {d : Nat} {h : jx_H} {σ : mS} (hl : 49 ≤ h.length) (T : Int → Int) (n : Int) (ht : tOK T n) (e1 : σ 1 = T) (e2 : σ 2 0 = n) (he : mr (σ 29 0)) : ∀ (k : Nat) (l : List Int) (p : Int), l.length + (k + 1) = 8 → 0 ≤ p → p ≤ n → ∀ r, r = spn pL T n (k + 1) p →
    (r.length < k + 1 → jx_r (jz β) jw_M (d + 1) 218 (27, [some (.ref 15), some (.int (Int32.ofInt ((l.length : Int))))], [], ml_mk h (su (su σ 31 (0) (pk l)) 28 (0) (p))) (ml_mk h ((su (su σ 31 (0) (pk (l ++ r))) 28 (0) (p + (r.length : Int)))), .inl (some (.int (Int32.ofInt (1)))))) ∧ (r.length = k + 1 → jx_r (jz β) jw_M (d + 1) 218 (27, [some (.ref 15), some (.int (Int32.ofInt ((l.length : Int))))], [], ml_mk h (su (su σ 31 (0) (pk l)) 28 (0) (p))) (ml_mk h (mWrong (su (su σ 31 (0) (pk (l ++ r.take k))) 28 (0) (p + (k : Int))) (p + (k : Int))), .inl (some (.int (Int32.ofInt (0)))))) := by
  intro k
  induction k with
  | zero =>
    intro l p hlen h0 hp r hr
    have hh := tH_r (p := p) ht h0
    by_cases hP : 97 ≤ tH T n p ∧ tH T n p ≤ 122
    · rw [spn_t (decide_eq_true hP)] at hr
      have hr2 : r = [tH T n p] := hr
      subst hr2
      refine ⟨fun q => absurd q (by simp), fun _ => ?_⟩
      rw [show (l ++ [tH T n p].take 0) = l by simp, show p + ((0 : Nat) : Int) = p by omega]
      refine jr_1 jm_218 (show jw_cd cd_218 27 = some (.aload_n 0) by decide +kernel) rfl ?_
      refine jr_c jm_218 (show jw_cd cd_218 28 = some (.invokevirtual 151) by decide +kernel) (mc_v hl (n := 0) (m2 := 215) (bs := []) (r := []) (show jw_find jw_cvT 34 151 = some (0, [(16, 215)]) by decide +kernel) (by decide) rfl rfl rfl) jm_215 ⟨Nat.le_of_ble_eq_true rfl, by decide⟩ (jn_hereP hl ht (T := T) (n := n) (p := p) (((su_row (by decide)).trans (su_row (by decide))).trans e1) (((su_nf (by decide)).trans (su_nf (by decide))).trans e2) ((su_eq _ _ _ _).trans rfl) (by omega) (by omega)) ?_
      refine jr_c jm_218 (show jw_cd cd_218 31 = some (.invokestatic 162) by decide +kernel) (mc_s (n := 1) (m2 := 219) (bs := [.int (Int32.ofInt (tH T n (p)))]) (r := []) (by decide) (show jw_find jw_csT 34 162 = some (219, 1) by decide +kernel) rfl rfl rfl) jm_219 ⟨Nat.le_of_ble_eq_true rfl, by decide⟩ (jn_isL_t hl hP) ?_
      refine jr_1 jm_218 (show jw_cd cd_218 34 = some (.ifCond .eq 51) by decide +kernel) (mz_f (q := .eq) (a := 1) (by show ¬ (1 = 0); omega) ⟨by omega, by omega⟩ (by decide)) ?_
      refine jr_1 jm_218 (show jw_cd cd_218 37 = some (.iload_n 1) by decide +kernel) rfl ?_
      refine jr_1 jm_218 (show jw_cd cd_218 38 = some (.bipush 7) by decide +kernel) (mt_bi (by decide)) ?_
      refine jr_1 jm_218 (show jw_cd cd_218 40 = some (.if_icmp .ne 13) by decide +kernel) (mb_f (q := .ne) (a := (l.length : Int)) (b := 7) (by show ¬ (¬ ((l.length : Int) = 7)); omega) ⟨by omega, by omega⟩ ⟨by omega, by omega⟩ (by decide)) ?_
      refine jr_1 jm_218 (show jw_cd cd_218 43 = some (.aload_n 0) by decide +kernel) rfl ?_
      refine jr_1 jm_218 (show jw_cd cd_218 44 = some (.aload_n 0) by decide +kernel) rfl ?_
      refine jr_1 jm_218 (show jw_cd cd_218 45 = some (.getfield 145) by decide +kernel) (mg_i hl (e := p) (su_eq _ _ _ _) (show jw_fld 34 145 16 = some 28 by decide +kernel) (by decide) (by decide)) ?_
      refine jr_c jm_218 (show jw_cd cd_218 48 = some (.invokevirtual 155) by decide +kernel) (mc_v hl (n := 1) (m2 := 216) (bs := [.int (Int32.ofInt (p))]) (r := []) (show jw_find jw_cvT 34 155 = some (1, [(16, 216)]) by decide +kernel) (by decide) rfl rfl rfl) jm_216 ⟨Nat.le_of_ble_eq_true rfl, by decide⟩ (jn_wrong hl (by rw [show (su (su σ 31 (0) (pk l)) 28 (0) (p)) 29 0 = σ 29 0 from (su_nf (by decide)).trans (su_nf (by decide))]; exact he)) ?_
      refine jr_1 jm_218 (show jw_cd cd_218 51 = some (.iconst 0) by decide +kernel) rfl ?_
      exact jr_v jm_218 (show jw_cd cd_218 52 = some (.ireturn) by decide +kernel) rfl
    · rw [spn_f (fun q => hP (of_decide_eq_true q))] at hr
      subst hr
      refine ⟨fun _ => ?_, fun q => absurd q (by simp)⟩
      rw [List.append_nil, show p + (([] : List Int).length : Int) = p by simp]
      refine jr_1 jm_218 (show jw_cd cd_218 27 = some (.aload_n 0) by decide +kernel) rfl ?_
      refine jr_c jm_218 (show jw_cd cd_218 28 = some (.invokevirtual 151) by decide +kernel) (mc_v hl (n := 0) (m2 := 215) (bs := []) (r := []) (show jw_find jw_cvT 34 151 = some (0, [(16, 215)]) by decide +kernel) (by decide) rfl rfl rfl) jm_215 ⟨Nat.le_of_ble_eq_true rfl, by decide⟩ (jn_hereP hl ht (T := T) (n := n) (p := p) (((su_row (by decide)).trans (su_row (by decide))).trans e1) (((su_nf (by decide)).trans (su_nf (by decide))).trans e2) ((su_eq _ _ _ _).trans rfl) (by omega) (by omega)) ?_
      refine jr_c jm_218 (show jw_cd cd_218 31 = some (.invokestatic 162) by decide +kernel) (mc_s (n := 1) (m2 := 219) (bs := [.int (Int32.ofInt (tH T n (p)))]) (r := []) (by decide) (show jw_find jw_csT 34 162 = some (219, 1) by decide +kernel) rfl rfl rfl) jm_219 ⟨Nat.le_of_ble_eq_true rfl, by decide⟩ (jn_isL_f hl ⟨by omega, by omega⟩ hP) ?_
      refine jr_1 jm_218 (show jw_cd cd_218 34 = some (.ifCond .eq 51) by decide +kernel) (mz_t (q := .eq) (a := 0) (t := 85) (by show 0 = 0; omega) ⟨by omega, by omega⟩ (by decide) (by decide)) ?_
      refine jr_1 jm_218 (show jw_cd cd_218 85 = some (.iconst 1) by decide +kernel) rfl ?_
      exact jr_v jm_218 (show jw_cd cd_218 86 = some (.ireturn) by decide +kernel) rfl
  | succ k ih =>
    intro l p hlen h0 hp r hr
    have hh := tH_r (p := p) ht h0
    by_cases hP : 97 ≤ tH T n p ∧ tH T n p ≤ 122
    · rw [spn_t (decide_eq_true hP)] at hr
      obtain ⟨r2, hr2⟩ : ∃ r2, r2 = spn pL T n (k + 1) (p + 1) := ⟨_, rfl⟩
      rw [← hr2] at hr
      subst hr
      have hc : tH T n p < 128 := by omega
      have hi := ih (l ++ [tH T n p]) (p + 1) (by simp; omega) (by omega) (by omega) r2 hr2
      refine ⟨fun q => ?_, fun q => ?_⟩
      · rw [List.append_cons, show p + ((tH T n p :: r2).length : Int) = p + 1 + (r2.length : Int) by simp; omega]
        refine jr_1 jm_218 (show jw_cd cd_218 27 = some (.aload_n 0) by decide +kernel) rfl ?_
        refine jr_c jm_218 (show jw_cd cd_218 28 = some (.invokevirtual 151) by decide +kernel) (mc_v hl (n := 0) (m2 := 215) (bs := []) (r := []) (show jw_find jw_cvT 34 151 = some (0, [(16, 215)]) by decide +kernel) (by decide) rfl rfl rfl) jm_215 ⟨Nat.le_of_ble_eq_true rfl, by decide⟩ (jn_hereP hl ht (T := T) (n := n) (p := p) (((su_row (by decide)).trans (su_row (by decide))).trans e1) (((su_nf (by decide)).trans (su_nf (by decide))).trans e2) ((su_eq _ _ _ _).trans rfl) (by omega) (by omega)) ?_
        refine jr_c jm_218 (show jw_cd cd_218 31 = some (.invokestatic 162) by decide +kernel) (mc_s (n := 1) (m2 := 219) (bs := [.int (Int32.ofInt (tH T n (p)))]) (r := []) (by decide) (show jw_find jw_csT 34 162 = some (219, 1) by decide +kernel) rfl rfl rfl) jm_219 ⟨Nat.le_of_ble_eq_true rfl, by decide⟩ (jn_isL_t hl hP) ?_
        refine jr_1 jm_218 (show jw_cd cd_218 34 = some (.ifCond .eq 51) by decide +kernel) (mz_f (q := .eq) (a := 1) (by show ¬ (1 = 0); omega) ⟨by omega, by omega⟩ (by decide)) ?_
        refine jr_1 jm_218 (show jw_cd cd_218 37 = some (.iload_n 1) by decide +kernel) rfl ?_
        refine jr_1 jm_218 (show jw_cd cd_218 38 = some (.bipush 7) by decide +kernel) (mt_bi (by decide)) ?_
        refine jr_1 jm_218 (show jw_cd cd_218 40 = some (.if_icmp .ne 13) by decide +kernel) (mb_t (q := .ne) (a := (l.length : Int)) (b := 7) (t := 53) (by show ¬ ((l.length : Int) = 7); omega) ⟨by omega, by omega⟩ ⟨by omega, by omega⟩ (by decide) (by decide)) ?_
        refine jr_1 jm_218 (show jw_cd cd_218 53 = some (.aload_n 0) by decide +kernel) rfl ?_
        refine jr_1 jm_218 (show jw_cd cd_218 54 = some (.aload_n 0) by decide +kernel) rfl ?_
        refine jr_1 jm_218 (show jw_cd cd_218 55 = some (.getfield 158) by decide +kernel) (mg_j hl (e := pk l) ((su_nf (by decide)).trans (su_eq _ _ _ _)) (show jw_fld 34 158 16 = some 31 by decide +kernel) (by decide) (by decide)) ?_
        refine jr_1 jm_218 (show jw_cd cd_218 58 = some (.iload_n 1) by decide +kernel) rfl ?_
        refine jr_1 jm_218 (show jw_cd cd_218 59 = some (.aload_n 0) by decide +kernel) rfl ?_
        refine jr_c jm_218 (show jw_cd cd_218 60 = some (.invokevirtual 151) by decide +kernel) (mc_v hl (n := 0) (m2 := 215) (bs := []) (r := [.int (Int32.ofInt ((l.length : Int))), .long (Int64.ofInt (pk l)), .ref 15]) (show jw_find jw_cvT 34 151 = some (0, [(16, 215)]) by decide +kernel) (by decide) rfl rfl rfl) jm_215 ⟨Nat.le_of_ble_eq_true rfl, by decide⟩ (jn_hereP hl ht (T := T) (n := n) (p := p) (((su_row (by decide)).trans (su_row (by decide))).trans e1) (((su_nf (by decide)).trans (su_nf (by decide))).trans e2) ((su_eq _ _ _ _).trans rfl) (by omega) (by omega)) ?_
        refine jr_c jm_218 (show jw_cd cd_218 63 = some (.invokestatic 166) by decide +kernel) (mc_s (n := 3) (m2 := 220) (bs := [.long (Int64.ofInt (pk l)), .int (Int32.ofInt ((l.length : Int))), .int (Int32.ofInt (tH T n (p)))]) (r := [.ref 15]) (by decide) (show jw_find jw_csT 34 166 = some (220, 3) by decide +kernel) rfl rfl rfl) jm_220 ⟨Nat.le_of_ble_eq_true rfl, by decide⟩ (jn_with hl (l := l) rfl (by omega) ⟨by omega, by omega⟩) ?_
        refine jr_1 jm_218 (show jw_cd cd_218 66 = some (.putfield 158) by decide +kernel) (mp_j hl (x := pk (l ++ [tH T n (p)])) (show jw_fld 34 158 16 = some 31 by decide +kernel) (by decide) (by decide) (show jw_ft 16 31 = some .long by decide +kernel) (show jw_fm 34 16 31 = some false by decide +kernel)) ?_
        refine jr_1 jm_218 (F2 := (72, [some (.ref 15), some (.int (Int32.ofInt ((l.length : Int) + 1)))], [], ml_mk h (su (su (su σ 31 (0) (pk l)) 28 (0) (p)) 31 (0) (pk (l ++ [tH T n (p)]))))) (show jw_cd cd_218 69 = some (.iinc 1 1) by decide +kernel) (mt_inc (a := (l.length : Int)) (c := (l.length : Int) + 1) rfl (by omega) rfl) ?_
        refine jr_1 jm_218 (show jw_cd cd_218 72 = some (.aload_n 0) by decide +kernel) rfl ?_
        refine jr_1 jm_218 (show jw_cd cd_218 73 = some (.dup) by decide +kernel) rfl ?_
        refine jr_1 jm_218 (show jw_cd cd_218 74 = some (.getfield 145) by decide +kernel) (mg_i hl (e := p) ((su_nf (by decide)).trans (su_eq _ _ _ _)) (show jw_fld 34 145 16 = some 28 by decide +kernel) (by decide) (by decide)) ?_
        refine jr_1 jm_218 (show jw_cd cd_218 77 = some (.iconst 1) by decide +kernel) rfl ?_
        refine jr_1 jm_218 (show jw_cd cd_218 78 = some (.iadd) by decide +kernel) (mt_add (c := p + 1) rfl) ?_
        refine jr_1 jm_218 (show jw_cd cd_218 79 = some (.putfield 145) by decide +kernel) (mp_i hl (x := p + 1) (show jw_fld 34 145 16 = some 28 by decide +kernel) (by decide) (by decide) (show jw_ft 16 28 = some .int by decide +kernel) (show jw_fm 34 16 28 = some false by decide +kernel)) ?_
        refine jr_1 jm_218 (show jw_cd cd_218 82 = some (.goto (-55)) by decide +kernel) (ju_go (t := 27) (by decide)) ?_
        rw [su_4 (by decide)]
        rw [show ((l.length : Int) + 1) = ((l ++ [tH T n p]).length : Int) by simp]
        exact hi.1 (by simp at q; omega)
      · rw [List.take_succ_cons, List.append_cons, show p + ((k + 1 : Nat) : Int) = p + 1 + (k : Int) by omega]
        refine jr_1 jm_218 (show jw_cd cd_218 27 = some (.aload_n 0) by decide +kernel) rfl ?_
        refine jr_c jm_218 (show jw_cd cd_218 28 = some (.invokevirtual 151) by decide +kernel) (mc_v hl (n := 0) (m2 := 215) (bs := []) (r := []) (show jw_find jw_cvT 34 151 = some (0, [(16, 215)]) by decide +kernel) (by decide) rfl rfl rfl) jm_215 ⟨Nat.le_of_ble_eq_true rfl, by decide⟩ (jn_hereP hl ht (T := T) (n := n) (p := p) (((su_row (by decide)).trans (su_row (by decide))).trans e1) (((su_nf (by decide)).trans (su_nf (by decide))).trans e2) ((su_eq _ _ _ _).trans rfl) (by omega) (by omega)) ?_
        refine jr_c jm_218 (show jw_cd cd_218 31 = some (.invokestatic 162) by decide +kernel) (mc_s (n := 1) (m2 := 219) (bs := [.int (Int32.ofInt (tH T n (p)))]) (r := []) (by decide) (show jw_find jw_csT 34 162 = some (219, 1) by decide +kernel) rfl rfl rfl) jm_219 ⟨Nat.le_of_ble_eq_true rfl, by decide⟩ (jn_isL_t hl hP) ?_
        refine jr_1 jm_218 (show jw_cd cd_218 34 = some (.ifCond .eq 51) by decide +kernel) (mz_f (q := .eq) (a := 1) (by show ¬ (1 = 0); omega) ⟨by omega, by omega⟩ (by decide)) ?_
        refine jr_1 jm_218 (show jw_cd cd_218 37 = some (.iload_n 1) by decide +kernel) rfl ?_
        refine jr_1 jm_218 (show jw_cd cd_218 38 = some (.bipush 7) by decide +kernel) (mt_bi (by decide)) ?_
        refine jr_1 jm_218 (show jw_cd cd_218 40 = some (.if_icmp .ne 13) by decide +kernel) (mb_t (q := .ne) (a := (l.length : Int)) (b := 7) (t := 53) (by show ¬ ((l.length : Int) = 7); omega) ⟨by omega, by omega⟩ ⟨by omega, by omega⟩ (by decide) (by decide)) ?_
        refine jr_1 jm_218 (show jw_cd cd_218 53 = some (.aload_n 0) by decide +kernel) rfl ?_
        refine jr_1 jm_218 (show jw_cd cd_218 54 = some (.aload_n 0) by decide +kernel) rfl ?_
        refine jr_1 jm_218 (show jw_cd cd_218 55 = some (.getfield 158) by decide +kernel) (mg_j hl (e := pk l) ((su_nf (by decide)).trans (su_eq _ _ _ _)) (show jw_fld 34 158 16 = some 31 by decide +kernel) (by decide) (by decide)) ?_
        refine jr_1 jm_218 (show jw_cd cd_218 58 = some (.iload_n 1) by decide +kernel) rfl ?_
        refine jr_1 jm_218 (show jw_cd cd_218 59 = some (.aload_n 0) by decide +kernel) rfl ?_
        refine jr_c jm_218 (show jw_cd cd_218 60 = some (.invokevirtual 151) by decide +kernel) (mc_v hl (n := 0) (m2 := 215) (bs := []) (r := [.int (Int32.ofInt ((l.length : Int))), .long (Int64.ofInt (pk l)), .ref 15]) (show jw_find jw_cvT 34 151 = some (0, [(16, 215)]) by decide +kernel) (by decide) rfl rfl rfl) jm_215 ⟨Nat.le_of_ble_eq_true rfl, by decide⟩ (jn_hereP hl ht (T := T) (n := n) (p := p) (((su_row (by decide)).trans (su_row (by decide))).trans e1) (((su_nf (by decide)).trans (su_nf (by decide))).trans e2) ((su_eq _ _ _ _).trans rfl) (by omega) (by omega)) ?_
        refine jr_c jm_218 (show jw_cd cd_218 63 = some (.invokestatic 166) by decide +kernel) (mc_s (n := 3) (m2 := 220) (bs := [.long (Int64.ofInt (pk l)), .int (Int32.ofInt ((l.length : Int))), .int (Int32.ofInt (tH T n (p)))]) (r := [.ref 15]) (by decide) (show jw_find jw_csT 34 166 = some (220, 3) by decide +kernel) rfl rfl rfl) jm_220 ⟨Nat.le_of_ble_eq_true rfl, by decide⟩ (jn_with hl (l := l) rfl (by omega) ⟨by omega, by omega⟩) ?_
        refine jr_1 jm_218 (show jw_cd cd_218 66 = some (.putfield 158) by decide +kernel) (mp_j hl (x := pk (l ++ [tH T n (p)])) (show jw_fld 34 158 16 = some 31 by decide +kernel) (by decide) (by decide) (show jw_ft 16 31 = some .long by decide +kernel) (show jw_fm 34 16 31 = some false by decide +kernel)) ?_
        refine jr_1 jm_218 (F2 := (72, [some (.ref 15), some (.int (Int32.ofInt ((l.length : Int) + 1)))], [], ml_mk h (su (su (su σ 31 (0) (pk l)) 28 (0) (p)) 31 (0) (pk (l ++ [tH T n (p)]))))) (show jw_cd cd_218 69 = some (.iinc 1 1) by decide +kernel) (mt_inc (a := (l.length : Int)) (c := (l.length : Int) + 1) rfl (by omega) rfl) ?_
        refine jr_1 jm_218 (show jw_cd cd_218 72 = some (.aload_n 0) by decide +kernel) rfl ?_
        refine jr_1 jm_218 (show jw_cd cd_218 73 = some (.dup) by decide +kernel) rfl ?_
        refine jr_1 jm_218 (show jw_cd cd_218 74 = some (.getfield 145) by decide +kernel) (mg_i hl (e := p) ((su_nf (by decide)).trans (su_eq _ _ _ _)) (show jw_fld 34 145 16 = some 28 by decide +kernel) (by decide) (by decide)) ?_
        refine jr_1 jm_218 (show jw_cd cd_218 77 = some (.iconst 1) by decide +kernel) rfl ?_
        refine jr_1 jm_218 (show jw_cd cd_218 78 = some (.iadd) by decide +kernel) (mt_add (c := p + 1) rfl) ?_
        refine jr_1 jm_218 (show jw_cd cd_218 79 = some (.putfield 145) by decide +kernel) (mp_i hl (x := p + 1) (show jw_fld 34 145 16 = some 28 by decide +kernel) (by decide) (by decide) (show jw_ft 16 28 = some .int by decide +kernel) (show jw_fm 34 16 28 = some false by decide +kernel)) ?_
        refine jr_1 jm_218 (show jw_cd cd_218 82 = some (.goto (-55)) by decide +kernel) (ju_go (t := 27) (by decide)) ?_
        rw [su_4 (by decide)]
        rw [show ((l.length : Int) + 1) = ((l ++ [tH T n p]).length : Int) by simp]
        exact hi.2 (by simp at q; omega)
    · rw [spn_f (fun q => hP (of_decide_eq_true q))] at hr
      subst hr
      refine ⟨fun _ => ?_, fun q => absurd q (by simp)⟩
      rw [List.append_nil, show p + (([] : List Int).length : Int) = p by simp]
      refine jr_1 jm_218 (show jw_cd cd_218 27 = some (.aload_n 0) by decide +kernel) rfl ?_
      refine jr_c jm_218 (show jw_cd cd_218 28 = some (.invokevirtual 151) by decide +kernel) (mc_v hl (n := 0) (m2 := 215) (bs := []) (r := []) (show jw_find jw_cvT 34 151 = some (0, [(16, 215)]) by decide +kernel) (by decide) rfl rfl rfl) jm_215 ⟨Nat.le_of_ble_eq_true rfl, by decide⟩ (jn_hereP hl ht (T := T) (n := n) (p := p) (((su_row (by decide)).trans (su_row (by decide))).trans e1) (((su_nf (by decide)).trans (su_nf (by decide))).trans e2) ((su_eq _ _ _ _).trans rfl) (by omega) (by omega)) ?_
      refine jr_c jm_218 (show jw_cd cd_218 31 = some (.invokestatic 162) by decide +kernel) (mc_s (n := 1) (m2 := 219) (bs := [.int (Int32.ofInt (tH T n (p)))]) (r := []) (by decide) (show jw_find jw_csT 34 162 = some (219, 1) by decide +kernel) rfl rfl rfl) jm_219 ⟨Nat.le_of_ble_eq_true rfl, by decide⟩ (jn_isL_f hl ⟨by omega, by omega⟩ hP) ?_
      refine jr_1 jm_218 (show jw_cd cd_218 34 = some (.ifCond .eq 51) by decide +kernel) (mz_t (q := .eq) (a := 0) (t := 85) (by show 0 = 0; omega) ⟨by omega, by omega⟩ (by decide) (by decide)) ?_
      refine jr_1 jm_218 (show jw_cd cd_218 85 = some (.iconst 1) by decide +kernel) rfl ?_
      exact jr_v jm_218 (show jw_cd cd_218 86 = some (.ireturn) by decide +kernel) rfl
theorem jn_rt_loop {β : Bool} {d : Nat} {h : jx_H} {σ : mS} (hl : 49 ≤ h.length) (T : Int → Int) (n : Int) (ht : tOK T n) (e1 : σ 1 = T) (e2 : σ 2 0 = n) (he : mr (σ 29 0)) : ∀ (k : Nat) (l : List Int) (p : Int), l.length + (k + 1) = 8 → 0 ≤ p → p ≤ n → ∀ r, r = spn pX T n (k + 1) p →
    ∀ res, (r.length < k + 1 → (jx_r (jz β) jw_M (d + 1) 227 (82, [some (.ref 15), some (.int (Int32.ofInt ((l.length : Int) + (r.length : Int))))], [], ml_mk h (su (su σ 31 (0) (pk (l ++ r))) 28 (0) (p + (r.length : Int)))) res) → jx_r (jz β) jw_M (d + 1) 227 (17, [some (.ref 15), some (.int (Int32.ofInt ((l.length : Int))))], [], ml_mk h (su (su σ 31 (0) (pk l)) 28 (0) (p))) res) ∧ (r.length = k + 1 → jx_r (jz β) jw_M (d + 1) 227 (17, [some (.ref 15), some (.int (Int32.ofInt ((l.length : Int))))], [], ml_mk h (su (su σ 31 (0) (pk l)) 28 (0) (p))) (ml_mk h (mWrong (su (su σ 31 (0) (pk (l ++ r.take k))) 28 (0) (p + (k : Int))) (p + (k : Int))), .inl (some (.int (Int32.ofInt (0)))))) := by
  intro k
  induction k with
  | zero =>
    intro l p hlen h0 hp r hr res
    have hh := tH_r (p := p) ht h0
    by_cases hP : ¬ tH T n p = -1 ∧ ¬ tH T n p = 39
    · rw [spn_t (decide_eq_true hP)] at hr
      have hr2 : r = [tH T n p] := hr
      subst hr2
      refine ⟨fun q _ => absurd q (by simp), fun _ => ?_⟩
      rw [show (l ++ [tH T n p].take 0) = l by simp, show p + ((0 : Nat) : Int) = p by omega]
      refine jr_1 jm_227 (show jw_cd cd_227 17 = some (.aload_n 0) by decide +kernel) rfl ?_
      refine jr_c jm_227 (show jw_cd cd_227 18 = some (.invokevirtual 151) by decide +kernel) (mc_v hl (n := 0) (m2 := 215) (bs := []) (r := []) (show jw_find jw_cvT 34 151 = some (0, [(16, 215)]) by decide +kernel) (by decide) rfl rfl rfl) jm_215 ⟨Nat.le_of_ble_eq_true rfl, by decide⟩ (jn_hereP hl ht (T := T) (n := n) (p := p) (((su_row (by decide)).trans (su_row (by decide))).trans e1) (((su_nf (by decide)).trans (su_nf (by decide))).trans e2) ((su_eq _ _ _ _).trans rfl) (by omega) (by omega)) ?_
      refine jr_1 jm_227 (show jw_cd cd_227 21 = some (.iconst (-1)) by decide +kernel) rfl ?_
      refine jr_1 jm_227 (show jw_cd cd_227 22 = some (.if_icmp .eq 60) by decide +kernel) (mb_f (q := .eq) (a := tH T n (p)) (b := -1) (by show ¬ (tH T n (p) = -1); omega) ⟨by omega, by omega⟩ ⟨by omega, by omega⟩ (by decide)) ?_
      refine jr_1 jm_227 (show jw_cd cd_227 25 = some (.aload_n 0) by decide +kernel) rfl ?_
      refine jr_c jm_227 (show jw_cd cd_227 26 = some (.invokevirtual 151) by decide +kernel) (mc_v hl (n := 0) (m2 := 215) (bs := []) (r := []) (show jw_find jw_cvT 34 151 = some (0, [(16, 215)]) by decide +kernel) (by decide) rfl rfl rfl) jm_215 ⟨Nat.le_of_ble_eq_true rfl, by decide⟩ (jn_hereP hl ht (T := T) (n := n) (p := p) (((su_row (by decide)).trans (su_row (by decide))).trans e1) (((su_nf (by decide)).trans (su_nf (by decide))).trans e2) ((su_eq _ _ _ _).trans rfl) (by omega) (by omega)) ?_
      refine jr_1 jm_227 (show jw_cd cd_227 29 = some (.bipush 39) by decide +kernel) (mt_bi (by decide)) ?_
      refine jr_1 jm_227 (show jw_cd cd_227 31 = some (.if_icmp .eq 51) by decide +kernel) (mb_f (q := .eq) (a := tH T n (p)) (b := 39) (by show ¬ (tH T n (p) = 39); omega) ⟨by omega, by omega⟩ ⟨by omega, by omega⟩ (by decide)) ?_
      refine jr_1 jm_227 (show jw_cd cd_227 34 = some (.iload_n 1) by decide +kernel) rfl ?_
      refine jr_1 jm_227 (show jw_cd cd_227 35 = some (.bipush 7) by decide +kernel) (mt_bi (by decide)) ?_
      refine jr_1 jm_227 (show jw_cd cd_227 37 = some (.if_icmp .ne 13) by decide +kernel) (mb_f (q := .ne) (a := (l.length : Int)) (b := 7) (by show ¬ (¬ ((l.length : Int) = 7)); omega) ⟨by omega, by omega⟩ ⟨by omega, by omega⟩ (by decide)) ?_
      refine jr_1 jm_227 (show jw_cd cd_227 40 = some (.aload_n 0) by decide +kernel) rfl ?_
      refine jr_1 jm_227 (show jw_cd cd_227 41 = some (.aload_n 0) by decide +kernel) rfl ?_
      refine jr_1 jm_227 (show jw_cd cd_227 42 = some (.getfield 145) by decide +kernel) (mg_i hl (e := p) (su_eq _ _ _ _) (show jw_fld 34 145 16 = some 28 by decide +kernel) (by decide) (by decide)) ?_
      refine jr_c jm_227 (show jw_cd cd_227 45 = some (.invokevirtual 155) by decide +kernel) (mc_v hl (n := 1) (m2 := 216) (bs := [.int (Int32.ofInt (p))]) (r := []) (show jw_find jw_cvT 34 155 = some (1, [(16, 216)]) by decide +kernel) (by decide) rfl rfl rfl) jm_216 ⟨Nat.le_of_ble_eq_true rfl, by decide⟩ (jn_wrong hl (by rw [show (su (su σ 31 (0) (pk l)) 28 (0) (p)) 29 0 = σ 29 0 from (su_nf (by decide)).trans (su_nf (by decide))]; exact he)) ?_
      refine jr_1 jm_227 (show jw_cd cd_227 48 = some (.iconst 0) by decide +kernel) rfl ?_
      exact jr_v jm_227 (show jw_cd cd_227 49 = some (.ireturn) by decide +kernel) rfl
    · rw [spn_f (fun q => hP (of_decide_eq_true q))] at hr
      subst hr
      refine ⟨fun _ q => ?_, fun q => absurd q (by simp)⟩
      rw [List.append_nil, show p + (([] : List Int).length : Int) = p by simp, show (l.length : Int) + (([] : List Int).length : Int) = (l.length : Int) by simp] at q
      by_cases hm : tH T n p = -1
      · skip
        refine jr_1 jm_227 (show jw_cd cd_227 17 = some (.aload_n 0) by decide +kernel) rfl ?_
        refine jr_c jm_227 (show jw_cd cd_227 18 = some (.invokevirtual 151) by decide +kernel) (mc_v hl (n := 0) (m2 := 215) (bs := []) (r := []) (show jw_find jw_cvT 34 151 = some (0, [(16, 215)]) by decide +kernel) (by decide) rfl rfl rfl) jm_215 ⟨Nat.le_of_ble_eq_true rfl, by decide⟩ (jn_hereP hl ht (T := T) (n := n) (p := p) (((su_row (by decide)).trans (su_row (by decide))).trans e1) (((su_nf (by decide)).trans (su_nf (by decide))).trans e2) ((su_eq _ _ _ _).trans rfl) (by omega) (by omega)) ?_
        refine jr_1 jm_227 (show jw_cd cd_227 21 = some (.iconst (-1)) by decide +kernel) rfl ?_
        refine jr_1 jm_227 (show jw_cd cd_227 22 = some (.if_icmp .eq 60) by decide +kernel) (mb_t (q := .eq) (a := tH T n (p)) (b := -1) (t := 82) (by show tH T n (p) = -1; omega) ⟨by omega, by omega⟩ ⟨by omega, by omega⟩ (by decide) (by decide)) ?_
        exact q
      · have hm2 : tH T n p = 39 := Decidable.byContradiction fun z => hP ⟨hm, z⟩
        refine jr_1 jm_227 (show jw_cd cd_227 17 = some (.aload_n 0) by decide +kernel) rfl ?_
        refine jr_c jm_227 (show jw_cd cd_227 18 = some (.invokevirtual 151) by decide +kernel) (mc_v hl (n := 0) (m2 := 215) (bs := []) (r := []) (show jw_find jw_cvT 34 151 = some (0, [(16, 215)]) by decide +kernel) (by decide) rfl rfl rfl) jm_215 ⟨Nat.le_of_ble_eq_true rfl, by decide⟩ (jn_hereP hl ht (T := T) (n := n) (p := p) (((su_row (by decide)).trans (su_row (by decide))).trans e1) (((su_nf (by decide)).trans (su_nf (by decide))).trans e2) ((su_eq _ _ _ _).trans rfl) (by omega) (by omega)) ?_
        refine jr_1 jm_227 (show jw_cd cd_227 21 = some (.iconst (-1)) by decide +kernel) rfl ?_
        refine jr_1 jm_227 (show jw_cd cd_227 22 = some (.if_icmp .eq 60) by decide +kernel) (mb_f (q := .eq) (a := tH T n (p)) (b := -1) (by show ¬ (tH T n (p) = -1); omega) ⟨by omega, by omega⟩ ⟨by omega, by omega⟩ (by decide)) ?_
        refine jr_1 jm_227 (show jw_cd cd_227 25 = some (.aload_n 0) by decide +kernel) rfl ?_
        refine jr_c jm_227 (show jw_cd cd_227 26 = some (.invokevirtual 151) by decide +kernel) (mc_v hl (n := 0) (m2 := 215) (bs := []) (r := []) (show jw_find jw_cvT 34 151 = some (0, [(16, 215)]) by decide +kernel) (by decide) rfl rfl rfl) jm_215 ⟨Nat.le_of_ble_eq_true rfl, by decide⟩ (jn_hereP hl ht (T := T) (n := n) (p := p) (((su_row (by decide)).trans (su_row (by decide))).trans e1) (((su_nf (by decide)).trans (su_nf (by decide))).trans e2) ((su_eq _ _ _ _).trans rfl) (by omega) (by omega)) ?_
        refine jr_1 jm_227 (show jw_cd cd_227 29 = some (.bipush 39) by decide +kernel) (mt_bi (by decide)) ?_
        refine jr_1 jm_227 (show jw_cd cd_227 31 = some (.if_icmp .eq 51) by decide +kernel) (mb_t (q := .eq) (a := tH T n (p)) (b := 39) (t := 82) (by show tH T n (p) = 39; omega) ⟨by omega, by omega⟩ ⟨by omega, by omega⟩ (by decide) (by decide)) ?_
        exact q
  | succ k ih =>
    intro l p hlen h0 hp r hr res
    have hh := tH_r (p := p) ht h0
    by_cases hP : ¬ tH T n p = -1 ∧ ¬ tH T n p = 39
    · rw [spn_t (decide_eq_true hP)] at hr
      obtain ⟨r2, hr2⟩ : ∃ r2, r2 = spn pX T n (k + 1) (p + 1) := ⟨_, rfl⟩
      rw [← hr2] at hr
      subst hr
      have hc : tH T n p < 128 := by omega
      have hi := ih (l ++ [tH T n p]) (p + 1) (by simp; omega) (by omega) (by omega) r2 hr2 res
      refine ⟨fun q kk => ?_, fun q => ?_⟩
      · rw [List.append_cons, show p + ((tH T n p :: r2).length : Int) = p + 1 + (r2.length : Int) by simp; omega, show (l.length : Int) + ((tH T n p :: r2).length : Int) = ((l ++ [tH T n p]).length : Int) + (r2.length : Int) by simp; omega] at kk
        refine jr_1 jm_227 (show jw_cd cd_227 17 = some (.aload_n 0) by decide +kernel) rfl ?_
        refine jr_c jm_227 (show jw_cd cd_227 18 = some (.invokevirtual 151) by decide +kernel) (mc_v hl (n := 0) (m2 := 215) (bs := []) (r := []) (show jw_find jw_cvT 34 151 = some (0, [(16, 215)]) by decide +kernel) (by decide) rfl rfl rfl) jm_215 ⟨Nat.le_of_ble_eq_true rfl, by decide⟩ (jn_hereP hl ht (T := T) (n := n) (p := p) (((su_row (by decide)).trans (su_row (by decide))).trans e1) (((su_nf (by decide)).trans (su_nf (by decide))).trans e2) ((su_eq _ _ _ _).trans rfl) (by omega) (by omega)) ?_
        refine jr_1 jm_227 (show jw_cd cd_227 21 = some (.iconst (-1)) by decide +kernel) rfl ?_
        refine jr_1 jm_227 (show jw_cd cd_227 22 = some (.if_icmp .eq 60) by decide +kernel) (mb_f (q := .eq) (a := tH T n (p)) (b := -1) (by show ¬ (tH T n (p) = -1); omega) ⟨by omega, by omega⟩ ⟨by omega, by omega⟩ (by decide)) ?_
        refine jr_1 jm_227 (show jw_cd cd_227 25 = some (.aload_n 0) by decide +kernel) rfl ?_
        refine jr_c jm_227 (show jw_cd cd_227 26 = some (.invokevirtual 151) by decide +kernel) (mc_v hl (n := 0) (m2 := 215) (bs := []) (r := []) (show jw_find jw_cvT 34 151 = some (0, [(16, 215)]) by decide +kernel) (by decide) rfl rfl rfl) jm_215 ⟨Nat.le_of_ble_eq_true rfl, by decide⟩ (jn_hereP hl ht (T := T) (n := n) (p := p) (((su_row (by decide)).trans (su_row (by decide))).trans e1) (((su_nf (by decide)).trans (su_nf (by decide))).trans e2) ((su_eq _ _ _ _).trans rfl) (by omega) (by omega)) ?_
        refine jr_1 jm_227 (show jw_cd cd_227 29 = some (.bipush 39) by decide +kernel) (mt_bi (by decide)) ?_
        refine jr_1 jm_227 (show jw_cd cd_227 31 = some (.if_icmp .eq 51) by decide +kernel) (mb_f (q := .eq) (a := tH T n (p)) (b := 39) (by show ¬ (tH T n (p) = 39); omega) ⟨by omega, by omega⟩ ⟨by omega, by omega⟩ (by decide)) ?_
        refine jr_1 jm_227 (show jw_cd cd_227 34 = some (.iload_n 1) by decide +kernel) rfl ?_
        refine jr_1 jm_227 (show jw_cd cd_227 35 = some (.bipush 7) by decide +kernel) (mt_bi (by decide)) ?_
        refine jr_1 jm_227 (show jw_cd cd_227 37 = some (.if_icmp .ne 13) by decide +kernel) (mb_t (q := .ne) (a := (l.length : Int)) (b := 7) (t := 50) (by show ¬ ((l.length : Int) = 7); omega) ⟨by omega, by omega⟩ ⟨by omega, by omega⟩ (by decide) (by decide)) ?_
        refine jr_1 jm_227 (show jw_cd cd_227 50 = some (.aload_n 0) by decide +kernel) rfl ?_
        refine jr_1 jm_227 (show jw_cd cd_227 51 = some (.aload_n 0) by decide +kernel) rfl ?_
        refine jr_1 jm_227 (show jw_cd cd_227 52 = some (.getfield 158) by decide +kernel) (mg_j hl (e := pk l) ((su_nf (by decide)).trans (su_eq _ _ _ _)) (show jw_fld 34 158 16 = some 31 by decide +kernel) (by decide) (by decide)) ?_
        refine jr_1 jm_227 (show jw_cd cd_227 55 = some (.iload_n 1) by decide +kernel) rfl ?_
        refine jr_1 jm_227 (show jw_cd cd_227 56 = some (.aload_n 0) by decide +kernel) rfl ?_
        refine jr_c jm_227 (show jw_cd cd_227 57 = some (.invokevirtual 151) by decide +kernel) (mc_v hl (n := 0) (m2 := 215) (bs := []) (r := [.int (Int32.ofInt ((l.length : Int))), .long (Int64.ofInt (pk l)), .ref 15]) (show jw_find jw_cvT 34 151 = some (0, [(16, 215)]) by decide +kernel) (by decide) rfl rfl rfl) jm_215 ⟨Nat.le_of_ble_eq_true rfl, by decide⟩ (jn_hereP hl ht (T := T) (n := n) (p := p) (((su_row (by decide)).trans (su_row (by decide))).trans e1) (((su_nf (by decide)).trans (su_nf (by decide))).trans e2) ((su_eq _ _ _ _).trans rfl) (by omega) (by omega)) ?_
        refine jr_c jm_227 (show jw_cd cd_227 60 = some (.invokestatic 166) by decide +kernel) (mc_s (n := 3) (m2 := 220) (bs := [.long (Int64.ofInt (pk l)), .int (Int32.ofInt ((l.length : Int))), .int (Int32.ofInt (tH T n (p)))]) (r := [.ref 15]) (by decide) (show jw_find jw_csT 34 166 = some (220, 3) by decide +kernel) rfl rfl rfl) jm_220 ⟨Nat.le_of_ble_eq_true rfl, by decide⟩ (jn_with hl (l := l) rfl (by omega) ⟨by omega, by omega⟩) ?_
        refine jr_1 jm_227 (show jw_cd cd_227 63 = some (.putfield 158) by decide +kernel) (mp_j hl (x := pk (l ++ [tH T n (p)])) (show jw_fld 34 158 16 = some 31 by decide +kernel) (by decide) (by decide) (show jw_ft 16 31 = some .long by decide +kernel) (show jw_fm 34 16 31 = some false by decide +kernel)) ?_
        refine jr_1 jm_227 (F2 := (69, [some (.ref 15), some (.int (Int32.ofInt ((l.length : Int) + 1)))], [], ml_mk h (su (su (su σ 31 (0) (pk l)) 28 (0) (p)) 31 (0) (pk (l ++ [tH T n (p)]))))) (show jw_cd cd_227 66 = some (.iinc 1 1) by decide +kernel) (mt_inc (a := (l.length : Int)) (c := (l.length : Int) + 1) rfl (by omega) rfl) ?_
        refine jr_1 jm_227 (show jw_cd cd_227 69 = some (.aload_n 0) by decide +kernel) rfl ?_
        refine jr_1 jm_227 (show jw_cd cd_227 70 = some (.dup) by decide +kernel) rfl ?_
        refine jr_1 jm_227 (show jw_cd cd_227 71 = some (.getfield 145) by decide +kernel) (mg_i hl (e := p) ((su_nf (by decide)).trans (su_eq _ _ _ _)) (show jw_fld 34 145 16 = some 28 by decide +kernel) (by decide) (by decide)) ?_
        refine jr_1 jm_227 (show jw_cd cd_227 74 = some (.iconst 1) by decide +kernel) rfl ?_
        refine jr_1 jm_227 (show jw_cd cd_227 75 = some (.iadd) by decide +kernel) (mt_add (c := p + 1) rfl) ?_
        refine jr_1 jm_227 (show jw_cd cd_227 76 = some (.putfield 145) by decide +kernel) (mp_i hl (x := p + 1) (show jw_fld 34 145 16 = some 28 by decide +kernel) (by decide) (by decide) (show jw_ft 16 28 = some .int by decide +kernel) (show jw_fm 34 16 28 = some false by decide +kernel)) ?_
        refine jr_1 jm_227 (show jw_cd cd_227 79 = some (.goto (-62)) by decide +kernel) (ju_go (t := 17) (by decide)) ?_
        rw [su_4 (by decide)]
        rw [show ((l.length : Int) + 1) = ((l ++ [tH T n p]).length : Int) by simp]
        exact hi.1 (by simp at q; omega) kk
      · rw [List.take_succ_cons, List.append_cons, show p + ((k + 1 : Nat) : Int) = p + 1 + (k : Int) by omega]
        refine jr_1 jm_227 (show jw_cd cd_227 17 = some (.aload_n 0) by decide +kernel) rfl ?_
        refine jr_c jm_227 (show jw_cd cd_227 18 = some (.invokevirtual 151) by decide +kernel) (mc_v hl (n := 0) (m2 := 215) (bs := []) (r := []) (show jw_find jw_cvT 34 151 = some (0, [(16, 215)]) by decide +kernel) (by decide) rfl rfl rfl) jm_215 ⟨Nat.le_of_ble_eq_true rfl, by decide⟩ (jn_hereP hl ht (T := T) (n := n) (p := p) (((su_row (by decide)).trans (su_row (by decide))).trans e1) (((su_nf (by decide)).trans (su_nf (by decide))).trans e2) ((su_eq _ _ _ _).trans rfl) (by omega) (by omega)) ?_
        refine jr_1 jm_227 (show jw_cd cd_227 21 = some (.iconst (-1)) by decide +kernel) rfl ?_
        refine jr_1 jm_227 (show jw_cd cd_227 22 = some (.if_icmp .eq 60) by decide +kernel) (mb_f (q := .eq) (a := tH T n (p)) (b := -1) (by show ¬ (tH T n (p) = -1); omega) ⟨by omega, by omega⟩ ⟨by omega, by omega⟩ (by decide)) ?_
        refine jr_1 jm_227 (show jw_cd cd_227 25 = some (.aload_n 0) by decide +kernel) rfl ?_
        refine jr_c jm_227 (show jw_cd cd_227 26 = some (.invokevirtual 151) by decide +kernel) (mc_v hl (n := 0) (m2 := 215) (bs := []) (r := []) (show jw_find jw_cvT 34 151 = some (0, [(16, 215)]) by decide +kernel) (by decide) rfl rfl rfl) jm_215 ⟨Nat.le_of_ble_eq_true rfl, by decide⟩ (jn_hereP hl ht (T := T) (n := n) (p := p) (((su_row (by decide)).trans (su_row (by decide))).trans e1) (((su_nf (by decide)).trans (su_nf (by decide))).trans e2) ((su_eq _ _ _ _).trans rfl) (by omega) (by omega)) ?_
        refine jr_1 jm_227 (show jw_cd cd_227 29 = some (.bipush 39) by decide +kernel) (mt_bi (by decide)) ?_
        refine jr_1 jm_227 (show jw_cd cd_227 31 = some (.if_icmp .eq 51) by decide +kernel) (mb_f (q := .eq) (a := tH T n (p)) (b := 39) (by show ¬ (tH T n (p) = 39); omega) ⟨by omega, by omega⟩ ⟨by omega, by omega⟩ (by decide)) ?_
        refine jr_1 jm_227 (show jw_cd cd_227 34 = some (.iload_n 1) by decide +kernel) rfl ?_
        refine jr_1 jm_227 (show jw_cd cd_227 35 = some (.bipush 7) by decide +kernel) (mt_bi (by decide)) ?_
        refine jr_1 jm_227 (show jw_cd cd_227 37 = some (.if_icmp .ne 13) by decide +kernel) (mb_t (q := .ne) (a := (l.length : Int)) (b := 7) (t := 50) (by show ¬ ((l.length : Int) = 7); omega) ⟨by omega, by omega⟩ ⟨by omega, by omega⟩ (by decide) (by decide)) ?_
        refine jr_1 jm_227 (show jw_cd cd_227 50 = some (.aload_n 0) by decide +kernel) rfl ?_
        refine jr_1 jm_227 (show jw_cd cd_227 51 = some (.aload_n 0) by decide +kernel) rfl ?_
        refine jr_1 jm_227 (show jw_cd cd_227 52 = some (.getfield 158) by decide +kernel) (mg_j hl (e := pk l) ((su_nf (by decide)).trans (su_eq _ _ _ _)) (show jw_fld 34 158 16 = some 31 by decide +kernel) (by decide) (by decide)) ?_
        refine jr_1 jm_227 (show jw_cd cd_227 55 = some (.iload_n 1) by decide +kernel) rfl ?_
        refine jr_1 jm_227 (show jw_cd cd_227 56 = some (.aload_n 0) by decide +kernel) rfl ?_
        refine jr_c jm_227 (show jw_cd cd_227 57 = some (.invokevirtual 151) by decide +kernel) (mc_v hl (n := 0) (m2 := 215) (bs := []) (r := [.int (Int32.ofInt ((l.length : Int))), .long (Int64.ofInt (pk l)), .ref 15]) (show jw_find jw_cvT 34 151 = some (0, [(16, 215)]) by decide +kernel) (by decide) rfl rfl rfl) jm_215 ⟨Nat.le_of_ble_eq_true rfl, by decide⟩ (jn_hereP hl ht (T := T) (n := n) (p := p) (((su_row (by decide)).trans (su_row (by decide))).trans e1) (((su_nf (by decide)).trans (su_nf (by decide))).trans e2) ((su_eq _ _ _ _).trans rfl) (by omega) (by omega)) ?_
        refine jr_c jm_227 (show jw_cd cd_227 60 = some (.invokestatic 166) by decide +kernel) (mc_s (n := 3) (m2 := 220) (bs := [.long (Int64.ofInt (pk l)), .int (Int32.ofInt ((l.length : Int))), .int (Int32.ofInt (tH T n (p)))]) (r := [.ref 15]) (by decide) (show jw_find jw_csT 34 166 = some (220, 3) by decide +kernel) rfl rfl rfl) jm_220 ⟨Nat.le_of_ble_eq_true rfl, by decide⟩ (jn_with hl (l := l) rfl (by omega) ⟨by omega, by omega⟩) ?_
        refine jr_1 jm_227 (show jw_cd cd_227 63 = some (.putfield 158) by decide +kernel) (mp_j hl (x := pk (l ++ [tH T n (p)])) (show jw_fld 34 158 16 = some 31 by decide +kernel) (by decide) (by decide) (show jw_ft 16 31 = some .long by decide +kernel) (show jw_fm 34 16 31 = some false by decide +kernel)) ?_
        refine jr_1 jm_227 (F2 := (69, [some (.ref 15), some (.int (Int32.ofInt ((l.length : Int) + 1)))], [], ml_mk h (su (su (su σ 31 (0) (pk l)) 28 (0) (p)) 31 (0) (pk (l ++ [tH T n (p)]))))) (show jw_cd cd_227 66 = some (.iinc 1 1) by decide +kernel) (mt_inc (a := (l.length : Int)) (c := (l.length : Int) + 1) rfl (by omega) rfl) ?_
        refine jr_1 jm_227 (show jw_cd cd_227 69 = some (.aload_n 0) by decide +kernel) rfl ?_
        refine jr_1 jm_227 (show jw_cd cd_227 70 = some (.dup) by decide +kernel) rfl ?_
        refine jr_1 jm_227 (show jw_cd cd_227 71 = some (.getfield 145) by decide +kernel) (mg_i hl (e := p) ((su_nf (by decide)).trans (su_eq _ _ _ _)) (show jw_fld 34 145 16 = some 28 by decide +kernel) (by decide) (by decide)) ?_
        refine jr_1 jm_227 (show jw_cd cd_227 74 = some (.iconst 1) by decide +kernel) rfl ?_
        refine jr_1 jm_227 (show jw_cd cd_227 75 = some (.iadd) by decide +kernel) (mt_add (c := p + 1) rfl) ?_
        refine jr_1 jm_227 (show jw_cd cd_227 76 = some (.putfield 145) by decide +kernel) (mp_i hl (x := p + 1) (show jw_fld 34 145 16 = some 28 by decide +kernel) (by decide) (by decide) (show jw_ft 16 28 = some .int by decide +kernel) (show jw_fm 34 16 28 = some false by decide +kernel)) ?_
        refine jr_1 jm_227 (show jw_cd cd_227 79 = some (.goto (-62)) by decide +kernel) (ju_go (t := 17) (by decide)) ?_
        rw [su_4 (by decide)]
        rw [show ((l.length : Int) + 1) = ((l ++ [tH T n p]).length : Int) by simp]
        exact hi.2 (by simp at q; omega)
    · rw [spn_f (fun q => hP (of_decide_eq_true q))] at hr
      subst hr
      refine ⟨fun _ q => ?_, fun q => absurd q (by simp)⟩
      rw [List.append_nil, show p + (([] : List Int).length : Int) = p by simp, show (l.length : Int) + (([] : List Int).length : Int) = (l.length : Int) by simp] at q
      by_cases hm : tH T n p = -1
      · skip
        refine jr_1 jm_227 (show jw_cd cd_227 17 = some (.aload_n 0) by decide +kernel) rfl ?_
        refine jr_c jm_227 (show jw_cd cd_227 18 = some (.invokevirtual 151) by decide +kernel) (mc_v hl (n := 0) (m2 := 215) (bs := []) (r := []) (show jw_find jw_cvT 34 151 = some (0, [(16, 215)]) by decide +kernel) (by decide) rfl rfl rfl) jm_215 ⟨Nat.le_of_ble_eq_true rfl, by decide⟩ (jn_hereP hl ht (T := T) (n := n) (p := p) (((su_row (by decide)).trans (su_row (by decide))).trans e1) (((su_nf (by decide)).trans (su_nf (by decide))).trans e2) ((su_eq _ _ _ _).trans rfl) (by omega) (by omega)) ?_
        refine jr_1 jm_227 (show jw_cd cd_227 21 = some (.iconst (-1)) by decide +kernel) rfl ?_
        refine jr_1 jm_227 (show jw_cd cd_227 22 = some (.if_icmp .eq 60) by decide +kernel) (mb_t (q := .eq) (a := tH T n (p)) (b := -1) (t := 82) (by show tH T n (p) = -1; omega) ⟨by omega, by omega⟩ ⟨by omega, by omega⟩ (by decide) (by decide)) ?_
        exact q
      · have hm2 : tH T n p = 39 := Decidable.byContradiction fun z => hP ⟨hm, z⟩
        refine jr_1 jm_227 (show jw_cd cd_227 17 = some (.aload_n 0) by decide +kernel) rfl ?_
        refine jr_c jm_227 (show jw_cd cd_227 18 = some (.invokevirtual 151) by decide +kernel) (mc_v hl (n := 0) (m2 := 215) (bs := []) (r := []) (show jw_find jw_cvT 34 151 = some (0, [(16, 215)]) by decide +kernel) (by decide) rfl rfl rfl) jm_215 ⟨Nat.le_of_ble_eq_true rfl, by decide⟩ (jn_hereP hl ht (T := T) (n := n) (p := p) (((su_row (by decide)).trans (su_row (by decide))).trans e1) (((su_nf (by decide)).trans (su_nf (by decide))).trans e2) ((su_eq _ _ _ _).trans rfl) (by omega) (by omega)) ?_
        refine jr_1 jm_227 (show jw_cd cd_227 21 = some (.iconst (-1)) by decide +kernel) rfl ?_
        refine jr_1 jm_227 (show jw_cd cd_227 22 = some (.if_icmp .eq 60) by decide +kernel) (mb_f (q := .eq) (a := tH T n (p)) (b := -1) (by show ¬ (tH T n (p) = -1); omega) ⟨by omega, by omega⟩ ⟨by omega, by omega⟩ (by decide)) ?_
        refine jr_1 jm_227 (show jw_cd cd_227 25 = some (.aload_n 0) by decide +kernel) rfl ?_
        refine jr_c jm_227 (show jw_cd cd_227 26 = some (.invokevirtual 151) by decide +kernel) (mc_v hl (n := 0) (m2 := 215) (bs := []) (r := []) (show jw_find jw_cvT 34 151 = some (0, [(16, 215)]) by decide +kernel) (by decide) rfl rfl rfl) jm_215 ⟨Nat.le_of_ble_eq_true rfl, by decide⟩ (jn_hereP hl ht (T := T) (n := n) (p := p) (((su_row (by decide)).trans (su_row (by decide))).trans e1) (((su_nf (by decide)).trans (su_nf (by decide))).trans e2) ((su_eq _ _ _ _).trans rfl) (by omega) (by omega)) ?_
        refine jr_1 jm_227 (show jw_cd cd_227 29 = some (.bipush 39) by decide +kernel) (mt_bi (by decide)) ?_
        refine jr_1 jm_227 (show jw_cd cd_227 31 = some (.if_icmp .eq 51) by decide +kernel) (mb_t (q := .eq) (a := tH T n (p)) (b := 39) (t := 82) (by show tH T n (p) = 39; omega) ⟨by omega, by omega⟩ ⟨by omega, by omega⟩ (by decide) (by decide)) ?_
        exact q

/-! ===== the slots, and slice (printed by program: gen49.py) ===== -/
theorem mt_iand {T : jx_T} {cd : Nat → Option Instr} {own pc : Nat} {rt} {lo : jx_L} {st : List Value} {h : jx_H} {a b c : Int} (hc : Int32.ofInt a &&& Int32.ofInt b = Int32.ofInt c) : jx_do T cd own pc rt .iand lo (.int (Int32.ofInt b) :: .int (Int32.ofInt a) :: st) h = some (.inl (pc + 1, lo, .int (Int32.ofInt c) :: st, h)) := by
  simp only [jx_do, hc]
theorem an4_t {q : Int} (h0 : 0 ≤ q ∧ q ≤ 7) (h : 4 ≤ q) : Int32.ofInt q &&& Int32.ofInt 4 = Int32.ofInt 4 := by
  obtain ⟨h1, h2⟩ := h0
  rcases (by omega : q = 0 ∨ q = 1 ∨ q = 2 ∨ q = 3 ∨ q = 4 ∨ q = 5 ∨ q = 6 ∨ q = 7) with rfl | rfl | rfl | rfl | rfl | rfl | rfl | rfl
  · first | decide | exact absurd h (by decide)
  · first | decide | exact absurd h (by decide)
  · first | decide | exact absurd h (by decide)
  · first | decide | exact absurd h (by decide)
  · first | decide | exact absurd h (by decide)
  · first | decide | exact absurd h (by decide)
  · first | decide | exact absurd h (by decide)
  · first | decide | exact absurd h (by decide)
theorem an4_f {q : Int} (h0 : 0 ≤ q ∧ q ≤ 7) (h : ¬ 4 ≤ q) : Int32.ofInt q &&& Int32.ofInt 4 = Int32.ofInt 0 := by
  obtain ⟨h1, h2⟩ := h0
  rcases (by omega : q = 0 ∨ q = 1 ∨ q = 2 ∨ q = 3 ∨ q = 4 ∨ q = 5 ∨ q = 6 ∨ q = 7) with rfl | rfl | rfl | rfl | rfl | rfl | rfl | rfl
  · first | decide | exact absurd h (by decide)
  · first | decide | exact absurd h (by decide)
  · first | decide | exact absurd h (by decide)
  · first | decide | exact absurd h (by decide)
  · first | decide | exact absurd h (by decide)
  · first | decide | exact absurd h (by decide)
  · first | decide | exact absurd h (by decide)
  · first | decide | exact absurd h (by decide)
theorem an1_t {q : Int} (h0 : 0 ≤ q ∧ q ≤ 7) (h : q % 2 = 1) : Int32.ofInt q &&& Int32.ofInt 1 = Int32.ofInt 1 := by
  obtain ⟨h1, h2⟩ := h0
  rcases (by omega : q = 0 ∨ q = 1 ∨ q = 2 ∨ q = 3 ∨ q = 4 ∨ q = 5 ∨ q = 6 ∨ q = 7) with rfl | rfl | rfl | rfl | rfl | rfl | rfl | rfl
  · first | decide | exact absurd h (by decide)
  · first | decide | exact absurd h (by decide)
  · first | decide | exact absurd h (by decide)
  · first | decide | exact absurd h (by decide)
  · first | decide | exact absurd h (by decide)
  · first | decide | exact absurd h (by decide)
  · first | decide | exact absurd h (by decide)
  · first | decide | exact absurd h (by decide)
theorem an1_f {q : Int} (h0 : 0 ≤ q ∧ q ≤ 7) (h : ¬ q % 2 = 1) : Int32.ofInt q &&& Int32.ofInt 1 = Int32.ofInt 0 := by
  obtain ⟨h1, h2⟩ := h0
  rcases (by omega : q = 0 ∨ q = 1 ∨ q = 2 ∨ q = 3 ∨ q = 4 ∨ q = 5 ∨ q = 6 ∨ q = 7) with rfl | rfl | rfl | rfl | rfl | rfl | rfl | rfl
  · first | decide | exact absurd h (by decide)
  · first | decide | exact absurd h (by decide)
  · first | decide | exact absurd h (by decide)
  · first | decide | exact absurd h (by decide)
  · first | decide | exact absurd h (by decide)
  · first | decide | exact absurd h (by decide)
  · first | decide | exact absurd h (by decide)
  · first | decide | exact absurd h (by decide)
theorem an2_t {q : Int} (h0 : 0 ≤ q ∧ q ≤ 7) (h : q / 2 % 2 = 1) : Int32.ofInt q &&& Int32.ofInt 2 = Int32.ofInt 2 := by
  obtain ⟨h1, h2⟩ := h0
  rcases (by omega : q = 0 ∨ q = 1 ∨ q = 2 ∨ q = 3 ∨ q = 4 ∨ q = 5 ∨ q = 6 ∨ q = 7) with rfl | rfl | rfl | rfl | rfl | rfl | rfl | rfl
  · first | decide | exact absurd h (by decide)
  · first | decide | exact absurd h (by decide)
  · first | decide | exact absurd h (by decide)
  · first | decide | exact absurd h (by decide)
  · first | decide | exact absurd h (by decide)
  · first | decide | exact absurd h (by decide)
  · first | decide | exact absurd h (by decide)
  · first | decide | exact absurd h (by decide)
theorem an2_f {q : Int} (h0 : 0 ≤ q ∧ q ≤ 7) (h : ¬ q / 2 % 2 = 1) : Int32.ofInt q &&& Int32.ofInt 2 = Int32.ofInt 0 := by
  obtain ⟨h1, h2⟩ := h0
  rcases (by omega : q = 0 ∨ q = 1 ∨ q = 2 ∨ q = 3 ∨ q = 4 ∨ q = 5 ∨ q = 6 ∨ q = 7) with rfl | rfl | rfl | rfl | rfl | rfl | rfl | rfl
  · first | decide | exact absurd h (by decide)
  · first | decide | exact absurd h (by decide)
  · first | decide | exact absurd h (by decide)
  · first | decide | exact absurd h (by decide)
  · first | decide | exact absurd h (by decide)
  · first | decide | exact absurd h (by decide)
  · first | decide | exact absurd h (by decide)
  · first | decide | exact absurd h (by decide)
/-- the slots from k on hold these -/
def tpR (σ : mS) (A B : Int → Prop) : Int → List lT → Prop
  | _, [] => True
  | k, s :: l => (σ 38 k = s.1 ∧ mO σ A B (σ 37 k) s.2) ∧ tpR σ A B (k + 1) l
theorem tpR_app {σ : mS} {A B : Int → Prop} : ∀ (l : List lT) (k : Int) (m : List lT), tpR σ A B k l → tpR σ A B (k + l.length) m → tpR σ A B k (l ++ m)
  | [], k, m, _, h => by
    have e : k + (([] : List lT).length : Int) = k := by simp
    rw [e] at h
    exact h
  | s :: l, k, m, h1, h2 => by
    refine ⟨h1.1, tpR_app l (k + 1) m h1.2 ?_⟩
    rw [show k + 1 + (l.length : Int) = k + ((s :: l).length : Int) by simp; omega]
    exact h2
theorem tpR_fr {σ τ : mS} {A B A' B' : Int → Prop} (hM : ∀ w x, mO σ A B w x → mO τ A' B' w x) : ∀ (l : List lT) (k : Int), (∀ j, k ≤ j → j < k + l.length → τ 37 j = σ 37 j ∧ τ 38 j = σ 38 j) → tpR σ A B k l → tpR τ A' B' k l
  | [], _, _, _ => trivial
  | s :: l, k, hu, h => by
    obtain ⟨e1, e2⟩ := hu k (Int.le_refl k) (by simp; omega)
    refine ⟨⟨by rw [e2]; exact h.1.1, by rw [e1]; exact hM _ _ h.1.2⟩, tpR_fr hM l (k + 1) (fun j h1 h2 => hu j (by omega) (by simp; omega)) h.2⟩
/-- slots from p on are new -/
def enF (σ τ : mS) (p : Int) : Prop := (∀ f v, 37 ≤ f → f ≤ 39 → v < p → τ f v = σ f v) ∧ (∀ f, f ∉ [36, 37, 38, 39] → τ f = σ f)
theorem enF_refl (σ : mS) (p : Int) : enF σ σ p := ⟨fun _ _ _ _ _ => rfl, fun _ _ => rfl⟩
theorem enF_trans {σ τ υ : mS} {p q : Int} (h : enF σ τ p) (h2 : enF τ υ q) (hpq : p ≤ q) : enF σ υ p := ⟨fun f v f1 f2 hv => (h2.1 f v f1 f2 (by omega)).trans (h.1 f v f1 f2 hv), fun f hf => (h2.2 f hf).trans (h.2 f hf)⟩
theorem en_1 {σ : mS} {v w p : Int} (hp : σ 36 0 = p) : enF σ (mEnter σ v w) p ∧ mEnter σ v w 36 0 = p + 1 ∧ mEnter σ v w 37 p = v ∧ mEnter σ v w 38 p = w := by
  unfold mEnter
  rw [hp]
  refine ⟨⟨fun f j f1 f2 hj => ?_, fun f hf => ?_⟩, su_eq _ _ _ _, ?_, ?_⟩
  · rw [su_nf (by omega), su_ni (by omega), su_ni (by omega), su_ni (by omega)]
  · simp only [List.mem_cons, List.mem_nil_iff, or_false, not_or] at hf
    rw [su_row (by omega), su_row (by omega), su_row (by omega), su_row (by omega)]
  · rw [su_nf (by decide), su_nf (by decide), su_nf (by decide), su_eq]
  · rw [su_nf (by decide), su_nf (by decide), su_eq]
theorem mO_en {σ τ : mS} {A B : Int → Prop} {p w : Int} {x : Option vT} (hq : enF σ τ p) (h : mO σ A B w x) : mO τ A B w x := mO_eq (fun f f1 f2 => hq.2 f (by simp; omega)) h
theorem jn_sl_loop {β : Bool} {d : Nat} {h : jx_H} (hl : 49 ≤ h.length) {A B : Int → Prop} (hA : mIx A) (hB : mIx B) {s v w n c low high a b : Int} {i : tI} {F : FT} (hn : n = fsz F) (hn1 : n ≤ 400) (hc : ¬ c = 0) (hc1 : -1000000 ≤ c ∧ c ≤ 1000000) (hb : -1 ≤ b ∧ b ≤ n) : ∀ (f : Nat) (k p : Int) (σ : mS) (L : List vT), L = ((slI c b f k).filterMap fun j => (sib F)[j.toNat]?) → mV σ A B v i F → σ 36 0 = p → 0 ≤ p → p + L.length ≤ 400 → (0 < c → 0 ≤ k ∧ k ≤ n + 1000000 ∧ b ≤ k + f) → (c < 0 → k < n ∧ -1000001 ≤ k ∧ k ≤ b + f) →
    ∃ τ : mS, jx_r (jz β) jw_M (d + 1) 269 (253, [some (.ref 15), some (.int (Int32.ofInt (s))), some (.int (Int32.ofInt (v))), some (.int (Int32.ofInt (w))), some (.int (Int32.ofInt (n))), some (.int (Int32.ofInt (c))), some (.int (Int32.ofInt (low))), some (.int (Int32.ofInt (high))), some (.int (Int32.ofInt (a))), some (.int (Int32.ofInt (b))), some (.int (Int32.ofInt (k)))], [], ml_mk h σ) (ml_mk h (τ), .inl none) ∧ enF σ τ p ∧ τ 36 0 = p + L.length ∧ tpR τ A B p (L.map fun u => (w, some u))
  | 0, k, p, σ, L, hL, hV, e36, hp, hr, hu, hd => by
    subst hL
    obtain ⟨c1, c2⟩ := hc1
    obtain ⟨b1, b2⟩ := hb
    refine ⟨σ, ?_, enF_refl σ p, by simp [slI, e36], trivial⟩
    by_cases hc0 : 0 < c
    · have hu := hu hc0
      refine jr_1 jm_269 (show jw_cd cd_269 253 = some (.iload 5) by decide +kernel) rfl ?_
      refine jr_1 jm_269 (show jw_cd cd_269 255 = some (.ifCond .le 13) by decide +kernel) (mz_f (q := .le) (a := c) (by show ¬ (c ≤ 0); omega) ⟨by omega, by omega⟩ (by decide)) ?_
      refine jr_1 jm_269 (show jw_cd cd_269 258 = some (.iload 10) by decide +kernel) rfl ?_
      refine jr_1 jm_269 (show jw_cd cd_269 260 = some (.iload 9) by decide +kernel) rfl ?_
      refine jr_1 jm_269 (show jw_cd cd_269 262 = some (.if_icmp .ge 35) by decide +kernel) (mb_t (q := .ge) (a := k) (b := b) (t := 297) (by show b ≤ k; omega) ⟨by omega, by omega⟩ ⟨by omega, by omega⟩ (by decide) (by decide)) ?_
      exact jr_v jm_269 (show jw_cd cd_269 297 = some (.return_) by decide +kernel) rfl
    · have hd := hd (by omega)
      refine jr_1 jm_269 (show jw_cd cd_269 253 = some (.iload 5) by decide +kernel) rfl ?_
      refine jr_1 jm_269 (show jw_cd cd_269 255 = some (.ifCond .le 13) by decide +kernel) (mz_t (q := .le) (a := c) (t := 268) (by show c ≤ 0; omega) ⟨by omega, by omega⟩ (by decide) (by decide)) ?_
      refine jr_1 jm_269 (show jw_cd cd_269 268 = some (.iload 10) by decide +kernel) rfl ?_
      refine jr_1 jm_269 (show jw_cd cd_269 270 = some (.iload 9) by decide +kernel) rfl ?_
      refine jr_1 jm_269 (show jw_cd cd_269 272 = some (.if_icmp .le 25) by decide +kernel) (mb_t (q := .le) (a := k) (b := b) (t := 297) (by show k ≤ b; omega) ⟨by omega, by omega⟩ ⟨by omega, by omega⟩ (by decide) (by decide)) ?_
      exact jr_v jm_269 (show jw_cd cd_269 297 = some (.return_) by decide +kernel) rfl
  | f + 1, k, p, σ, L, hL, hV, e36, hp, hr, hu, hd => by
    obtain ⟨c1, c2⟩ := hc1
    obtain ⟨b1, b2⟩ := hb
    by_cases hk : (0 < c ∧ k < b) ∨ (c ≤ 0 ∧ b < k)
    · have hkr : 0 ≤ k ∧ k < n := by
        rcases hk with ⟨h1, h2⟩ | ⟨h1, h2⟩
        · exact ⟨(hu h1).1, by omega⟩
        · exact ⟨by omega, (hd (by omega)).1⟩
      obtain ⟨k0, k1⟩ := hkr
      have hs : slI c b (f + 1) k = k :: slI c b f (k + c) := by
        show (if (0 < c ∧ k < b) ∨ (c ≤ 0 ∧ b < k) then k :: slI c b f (k + c) else []) = _
        rw [if_pos hk]
      obtain ⟨w0, i2, c2', r1, r2, r3⟩ := jn_element (β := β) (d := d) (h := h) (σ := σ) (s := k.toNat) hl hA hB hV (by omega) (by omega)
      rw [show ((k.toNat : Nat) : Int) = k by omega] at r1
      rw [fnth_sib] at r2
      rw [hs, List.filterMap_cons, r2] at hL
      obtain ⟨L2, hL2⟩ : ∃ L2, L2 = ((slI c b f (k + c)).filterMap fun j => (sib F)[j.toNat]?) := ⟨_, rfl⟩
      have hL : L = (i2, c2') :: L2 := by rw [hL2]; exact hL
      have hll : L.length = L2.length + 1 := by rw [hL]; rfl
      obtain ⟨q1, q2, q3, q4⟩ := en_1 (v := w0) (w := w) e36
      obtain ⟨τ, z1, z2, z3, z4⟩ := jn_sl_loop hl hA hB (β := β) (d := d) (s := s) (v := v) (w := w) (low := low) (high := high) (a := a) (i := i) hn hn1 hc ⟨c1, c2⟩ ⟨b1, b2⟩ f (k + c) (p + 1) (mEnter σ w0 w) L2 hL2 (mV_eq (fun f f1 f2 => q1.2 f (by simp; omega)) hV) q2 (by omega) (by omega) (fun h => by
        have := hu h
        omega) (fun h => by
        have := hd h
        omega)
      refine ⟨τ, ?_, enF_trans q1 z2 (by omega), by rw [z3]; omega, ?_⟩
      rotate_left
      · rw [hL]
        refine ⟨⟨?_, ?_⟩, z4⟩
        · rw [z2.1 38 p (by decide) (by decide) (by omega), q4]
        · rw [z2.1 37 p (by decide) (by decide) (by omega), q3]
          exact mO_en z2 (mO_en q1 r3)
      rcases hk with ⟨h1, h2⟩ | ⟨h1, h2⟩
      · have hu := hu h1
        refine jr_1 jm_269 (show jw_cd cd_269 253 = some (.iload 5) by decide +kernel) rfl ?_
        refine jr_1 jm_269 (show jw_cd cd_269 255 = some (.ifCond .le 13) by decide +kernel) (mz_f (q := .le) (a := c) (by show ¬ (c ≤ 0); omega) ⟨by omega, by omega⟩ (by decide)) ?_
        refine jr_1 jm_269 (show jw_cd cd_269 258 = some (.iload 10) by decide +kernel) rfl ?_
        refine jr_1 jm_269 (show jw_cd cd_269 260 = some (.iload 9) by decide +kernel) rfl ?_
        refine jr_1 jm_269 (show jw_cd cd_269 262 = some (.if_icmp .ge 35) by decide +kernel) (mb_f (q := .ge) (a := k) (b := b) (by show ¬ (b ≤ k); omega) ⟨by omega, by omega⟩ ⟨by omega, by omega⟩ (by decide)) ?_
        refine jr_1 jm_269 (show jw_cd cd_269 265 = some (.goto 10) by decide +kernel) (ju_go (t := 275) (by decide)) ?_
        refine jr_1 jm_269 (show jw_cd cd_269 275 = some (.aload_n 0) by decide +kernel) rfl ?_
        refine jr_1 jm_269 (show jw_cd cd_269 276 = some (.aload_n 0) by decide +kernel) rfl ?_
        refine jr_1 jm_269 (show jw_cd cd_269 277 = some (.iload_n 2) by decide +kernel) rfl ?_
        refine jr_1 jm_269 (show jw_cd cd_269 278 = some (.iload 10) by decide +kernel) rfl ?_
        refine jr_c jm_269 (show jw_cd cd_269 280 = some (.invokevirtual 277) by decide +kernel) (mc_v hl (n := 2) (m2 := 267) (bs := [.int (Int32.ofInt (v)), .int (Int32.ofInt (k))]) (r := [.ref 15]) (show jw_find jw_cvT 34 277 = some (2, [(16, 267)]) by decide +kernel) (by decide) rfl rfl rfl) jm_267 ⟨Nat.le_of_ble_eq_true rfl, by decide⟩ r1 ?_
        refine jr_1 jm_269 (show jw_cd cd_269 283 = some (.iload_n 3) by decide +kernel) rfl ?_
        refine jr_c jm_269 (show jw_cd cd_269 284 = some (.invokevirtual 280) by decide +kernel) (mc_v hl (n := 2) (m2 := 261) (bs := [.int (Int32.ofInt (w0)), .int (Int32.ofInt (w))]) (r := []) (show jw_find jw_cvT 34 280 = some (2, [(16, 261)]) by decide +kernel) (by decide) rfl rfl rfl) jm_261 ⟨Nat.le_of_ble_eq_true rfl, by decide⟩ (jn_enter hl ⟨by omega, by omega⟩) ?_
        refine jr_1 jm_269 (show jw_cd cd_269 287 = some (.iload 10) by decide +kernel) rfl ?_
        refine jr_1 jm_269 (show jw_cd cd_269 289 = some (.iload 5) by decide +kernel) rfl ?_
        refine jr_1 jm_269 (show jw_cd cd_269 291 = some (.iadd) by decide +kernel) (mt_add (c := k + c) rfl) ?_
        refine jr_1 jm_269 (F2 := (294, [some (.ref 15), some (.int (Int32.ofInt (s))), some (.int (Int32.ofInt (v))), some (.int (Int32.ofInt (w))), some (.int (Int32.ofInt (n))), some (.int (Int32.ofInt (c))), some (.int (Int32.ofInt (low))), some (.int (Int32.ofInt (high))), some (.int (Int32.ofInt (a))), some (.int (Int32.ofInt (b))), some (.int (Int32.ofInt (k + c)))], [], ml_mk h (mEnter σ w0 w))) (show jw_cd cd_269 292 = some (.istore 10) by decide +kernel) rfl ?_
        refine jr_1 jm_269 (show jw_cd cd_269 294 = some (.goto (-41)) by decide +kernel) (ju_go (t := 253) (by decide)) ?_
        exact z1
      · have hd := hd (by omega)
        refine jr_1 jm_269 (show jw_cd cd_269 253 = some (.iload 5) by decide +kernel) rfl ?_
        refine jr_1 jm_269 (show jw_cd cd_269 255 = some (.ifCond .le 13) by decide +kernel) (mz_t (q := .le) (a := c) (t := 268) (by show c ≤ 0; omega) ⟨by omega, by omega⟩ (by decide) (by decide)) ?_
        refine jr_1 jm_269 (show jw_cd cd_269 268 = some (.iload 10) by decide +kernel) rfl ?_
        refine jr_1 jm_269 (show jw_cd cd_269 270 = some (.iload 9) by decide +kernel) rfl ?_
        refine jr_1 jm_269 (show jw_cd cd_269 272 = some (.if_icmp .le 25) by decide +kernel) (mb_f (q := .le) (a := k) (b := b) (by show ¬ (k ≤ b); omega) ⟨by omega, by omega⟩ ⟨by omega, by omega⟩ (by decide)) ?_
        refine jr_1 jm_269 (show jw_cd cd_269 275 = some (.aload_n 0) by decide +kernel) rfl ?_
        refine jr_1 jm_269 (show jw_cd cd_269 276 = some (.aload_n 0) by decide +kernel) rfl ?_
        refine jr_1 jm_269 (show jw_cd cd_269 277 = some (.iload_n 2) by decide +kernel) rfl ?_
        refine jr_1 jm_269 (show jw_cd cd_269 278 = some (.iload 10) by decide +kernel) rfl ?_
        refine jr_c jm_269 (show jw_cd cd_269 280 = some (.invokevirtual 277) by decide +kernel) (mc_v hl (n := 2) (m2 := 267) (bs := [.int (Int32.ofInt (v)), .int (Int32.ofInt (k))]) (r := [.ref 15]) (show jw_find jw_cvT 34 277 = some (2, [(16, 267)]) by decide +kernel) (by decide) rfl rfl rfl) jm_267 ⟨Nat.le_of_ble_eq_true rfl, by decide⟩ r1 ?_
        refine jr_1 jm_269 (show jw_cd cd_269 283 = some (.iload_n 3) by decide +kernel) rfl ?_
        refine jr_c jm_269 (show jw_cd cd_269 284 = some (.invokevirtual 280) by decide +kernel) (mc_v hl (n := 2) (m2 := 261) (bs := [.int (Int32.ofInt (w0)), .int (Int32.ofInt (w))]) (r := []) (show jw_find jw_cvT 34 280 = some (2, [(16, 261)]) by decide +kernel) (by decide) rfl rfl rfl) jm_261 ⟨Nat.le_of_ble_eq_true rfl, by decide⟩ (jn_enter hl ⟨by omega, by omega⟩) ?_
        refine jr_1 jm_269 (show jw_cd cd_269 287 = some (.iload 10) by decide +kernel) rfl ?_
        refine jr_1 jm_269 (show jw_cd cd_269 289 = some (.iload 5) by decide +kernel) rfl ?_
        refine jr_1 jm_269 (show jw_cd cd_269 291 = some (.iadd) by decide +kernel) (mt_add (c := k + c) rfl) ?_
        refine jr_1 jm_269 (F2 := (294, [some (.ref 15), some (.int (Int32.ofInt (s))), some (.int (Int32.ofInt (v))), some (.int (Int32.ofInt (w))), some (.int (Int32.ofInt (n))), some (.int (Int32.ofInt (c))), some (.int (Int32.ofInt (low))), some (.int (Int32.ofInt (high))), some (.int (Int32.ofInt (a))), some (.int (Int32.ofInt (b))), some (.int (Int32.ofInt (k + c)))], [], ml_mk h (mEnter σ w0 w))) (show jw_cd cd_269 292 = some (.istore 10) by decide +kernel) rfl ?_
        refine jr_1 jm_269 (show jw_cd cd_269 294 = some (.goto (-41)) by decide +kernel) (ju_go (t := 253) (by decide)) ?_
        exact z1
    · have hs : slI c b (f + 1) k = [] := by
        show (if (0 < c ∧ k < b) ∨ (c ≤ 0 ∧ b < k) then k :: slI c b f (k + c) else []) = _
        rw [if_neg hk]
      rw [hs] at hL
      subst hL
      refine ⟨σ, ?_, enF_refl σ p, by simp [e36], trivial⟩
      by_cases hc0 : 0 < c
      · have hu := hu hc0
        refine jr_1 jm_269 (show jw_cd cd_269 253 = some (.iload 5) by decide +kernel) rfl ?_
        refine jr_1 jm_269 (show jw_cd cd_269 255 = some (.ifCond .le 13) by decide +kernel) (mz_f (q := .le) (a := c) (by show ¬ (c ≤ 0); omega) ⟨by omega, by omega⟩ (by decide)) ?_
        refine jr_1 jm_269 (show jw_cd cd_269 258 = some (.iload 10) by decide +kernel) rfl ?_
        refine jr_1 jm_269 (show jw_cd cd_269 260 = some (.iload 9) by decide +kernel) rfl ?_
        refine jr_1 jm_269 (show jw_cd cd_269 262 = some (.if_icmp .ge 35) by decide +kernel) (mb_t (q := .ge) (a := k) (b := b) (t := 297) (by show b ≤ k; omega) ⟨by omega, by omega⟩ ⟨by omega, by omega⟩ (by decide) (by decide)) ?_
        exact jr_v jm_269 (show jw_cd cd_269 297 = some (.return_) by decide +kernel) rfl
      · have hd := hd (by omega)
        refine jr_1 jm_269 (show jw_cd cd_269 253 = some (.iload 5) by decide +kernel) rfl ?_
        refine jr_1 jm_269 (show jw_cd cd_269 255 = some (.ifCond .le 13) by decide +kernel) (mz_t (q := .le) (a := c) (t := 268) (by show c ≤ 0; omega) ⟨by omega, by omega⟩ (by decide) (by decide)) ?_
        refine jr_1 jm_269 (show jw_cd cd_269 268 = some (.iload 10) by decide +kernel) rfl ?_
        refine jr_1 jm_269 (show jw_cd cd_269 270 = some (.iload 9) by decide +kernel) rfl ?_
        refine jr_1 jm_269 (show jw_cd cd_269 272 = some (.if_icmp .le 25) by decide +kernel) (mb_t (q := .le) (a := k) (b := b) (t := 297) (by show k ≤ b; omega) ⟨by omega, by omega⟩ ⟨by omega, by omega⟩ (by decide) (by decide)) ?_
        exact jr_v jm_269 (show jw_cd cd_269 297 = some (.return_) by decide +kernel) rfl

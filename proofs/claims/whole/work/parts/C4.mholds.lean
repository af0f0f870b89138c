/-! ===== the model's holds (printed by program: gen47.py) ===== -/
theorem jn_isN1 {β : Bool} {d : Nat} {h : jx_H} {σ : mS} (hl : 49 ≤ h.length) {A B : Int → Prop} (hA : mIx A) {w : Int} {x : Option (tI × FT)} (hO : mO σ A B w x) (hok : vokO x) (hn : nulO x = true) : jx_r (jz β) jw_M (d) 263 (0, [some (.ref 15), some (.int (Int32.ofInt (w)))], [], ml_mk h σ) (ml_mk h (σ), .inl (some (.int (Int32.ofInt (1))))) := by
  have e := jn_isNull (β := β) (d := d) hl hA hO fun i F hx => (hok i F hx).1
  rw [if_pos hn] at e
  exact e
theorem jn_isN0 {β : Bool} {d : Nat} {h : jx_H} {σ : mS} (hl : 49 ≤ h.length) {A B : Int → Prop} (hA : mIx A) {w : Int} {x : Option (tI × FT)} (hO : mO σ A B w x) (hok : vokO x) (hn : ¬ nulO x = true) : jx_r (jz β) jw_M (d) 263 (0, [some (.ref 15), some (.int (Int32.ofInt (w)))], [], ml_mk h σ) (ml_mk h (σ), .inl (some (.int (Int32.ofInt (0))))) := by
  have e := jn_isNull (β := β) (d := d) hl hA hO fun i F hx => (hok i F hx).1
  rw [if_neg hn] at e
  exact e
/-- what counts as true -/
def truS : Option (tI × FT) → Bool
  | none => false
  | some (i, F) => decide (¬ i.1 = 0 ∧ ¬ i.1 = 1 ∧ (i.1 < 4 ∨ (i.1 = 4 ∧ ¬ i.2.2.1 = []) ∨ (4 < i.1 ∧ 0 < fsz F)))
def kdO : Option (tI × FT) → Int
  | none => 0
  | some (i, _) => i.1
def nmO : Option (tI × FT) → Int
  | none => 0
  | some (i, _) => i.2.1
theorem nulO_iff : ∀ x : Option (tI × FT), nulO x = true ↔ kdO x = 0
  | none => ⟨fun _ => rfl, fun _ => rfl⟩
  | some (i, F) => ⟨fun h => of_decide_eq_true h, fun h => decide_eq_true h⟩
def eqS : Option (tI × FT) → Option (tI × FT) → Bool
  | some x, some y => if x.1.1 = 0 ∨ y.1.1 = 0 then decide (x.1.1 = 0 ∧ y.1.1 = 0) else pS (x, y)
  | none, y => nulO y
  | some x, none => nulO (some x)
def cmpS (g : Int) (a b : Option (tI × FT)) : Bool := if g = 1 then eqS a b else if g = 2 then !eqS a b else decide (kdO a = 3 ∧ kdO b = 3 ∧ (if g = 3 then nmO a ≤ nmO b else if g = 4 then nmO b ≤ nmO a else if g = 5 then nmO a < nmO b else nmO b < nmO a))
def holS (g : Int) (l r : sD) (v : tI × FT) : Bool := if r.1 = 0 then truS (sval l v) else cmpS g (sval l v) (sval r v)
theorem jn_ho_tru {β : Bool} {d : Nat} {h : jx_H} {τ : mS} (hl : 49 ≤ h.length) {A B : Int → Prop} (hA : mIx A) (hB : mIx B) {s e nn : Int} {w : Int} {x : Option (tI × FT)} (hO : mO τ A B w x) (hok : vokO x) (hc : ∀ i F, x = some (i, F) → fct F ≤ 1740) : ∀ res, jx_r (jz β) jw_M (d + 2) 270 (361, [some (.ref 15), some (.int (Int32.ofInt (s))), some (.int (Int32.ofInt (e))), some (.int (Int32.ofInt (nn))), some (.int (Int32.ofInt (w))), some (.int (Int32.ofInt (if truS x = true then 1 else 0))), none, none, none, none, none, none], [], ml_mk h τ) res → jx_r (jz β) jw_M (d + 2) 270 (30, [some (.ref 15), some (.int (Int32.ofInt (s))), some (.int (Int32.ofInt (e))), some (.int (Int32.ofInt (nn))), some (.int (Int32.ofInt (w))), none, none, none, none, none, none, none], [], ml_mk h τ) res := by
  intro res kk
  cases x with
  | none =>
    have hn : nulO none = true := rfl
    obtain rfl : w = -1 := id hO
    rw [show (if truS none = true then (1 : Int) else 0) = 0 from rfl] at kk
    refine jr_1 jm_270 (show jw_cd cd_270 30 = some (.aload_n 0) by decide +kernel) rfl ?_
    refine jr_1 jm_270 (show jw_cd cd_270 31 = some (.iload 4) by decide +kernel) rfl ?_
    refine jr_c jm_270 (show jw_cd cd_270 33 = some (.invokevirtual 270) by decide +kernel) (mc_v hl (n := 1) (m2 := 263) (bs := [.int (Int32.ofInt (-1))]) (r := []) (show jw_find jw_cvT 34 270 = some (1, [(16, 263)]) by decide +kernel) (by decide) rfl rfl rfl) jm_263 ⟨Nat.le_of_ble_eq_true rfl, by decide⟩ (jn_isN1 hl hA hO hok hn) ?_
    refine jr_1 jm_270 (show jw_cd cd_270 36 = some (.ifCond .ne 65) by decide +kernel) (mz_t (q := .ne) (a := 1) (t := 101) (by show ¬ (1 = 0); omega) ⟨by omega, by omega⟩ (by decide) (by decide)) ?_
    refine jr_1 jm_270 (show jw_cd cd_270 101 = some (.iconst 0) by decide +kernel) rfl ?_
    refine jr_1 jm_270 (F2 := (104, [some (.ref 15), some (.int (Int32.ofInt (s))), some (.int (Int32.ofInt (e))), some (.int (Int32.ofInt (nn))), some (.int (Int32.ofInt (-1))), some (.int (Int32.ofInt (0))), none, none, none, none, none, none], [], ml_mk h τ)) (show jw_cd cd_270 102 = some (.istore 5) by decide +kernel) rfl ?_
    refine jr_1 jm_270 (show jw_cd cd_270 104 = some (.goto 257) by decide +kernel) (ju_go (t := 361) (by decide)) ?_
    exact kk
  | some y =>
    obtain ⟨i, F⟩ := y
    obtain ⟨a1, ⟨n3, -, n5, n7⟩, -⟩ := id hO
    obtain ⟨w0, w1⟩ := hA _ a1
    obtain ⟨⟨i1, i2, -, htx, -⟩, hF⟩ := hok i F rfl
    have hfz := fsz_le F
    have hcF := hc i F rfl
    have et : truS (some (i, F)) = decide (¬ i.1 = 0 ∧ ¬ i.1 = 1 ∧ (i.1 < 4 ∨ (i.1 = 4 ∧ ¬ i.2.2.1 = []) ∨ (4 < i.1 ∧ 0 < fsz F))) := rfl
    by_cases h0 : i.1 = 0
    · have hn : nulO (some (i, F)) = true := decide_eq_true h0
      rw [et, decide_eq_false (fun z => z.1 h0)] at kk
      refine jr_1 jm_270 (show jw_cd cd_270 30 = some (.aload_n 0) by decide +kernel) rfl ?_
      refine jr_1 jm_270 (show jw_cd cd_270 31 = some (.iload 4) by decide +kernel) rfl ?_
      refine jr_c jm_270 (show jw_cd cd_270 33 = some (.invokevirtual 270) by decide +kernel) (mc_v hl (n := 1) (m2 := 263) (bs := [.int (Int32.ofInt (w))]) (r := []) (show jw_find jw_cvT 34 270 = some (1, [(16, 263)]) by decide +kernel) (by decide) rfl rfl rfl) jm_263 ⟨Nat.le_of_ble_eq_true rfl, by decide⟩ (jn_isN1 hl hA hO hok hn) ?_
      refine jr_1 jm_270 (show jw_cd cd_270 36 = some (.ifCond .ne 65) by decide +kernel) (mz_t (q := .ne) (a := 1) (t := 101) (by show ¬ (1 = 0); omega) ⟨by omega, by omega⟩ (by decide) (by decide)) ?_
      refine jr_1 jm_270 (show jw_cd cd_270 101 = some (.iconst 0) by decide +kernel) rfl ?_
      refine jr_1 jm_270 (F2 := (104, [some (.ref 15), some (.int (Int32.ofInt (s))), some (.int (Int32.ofInt (e))), some (.int (Int32.ofInt (nn))), some (.int (Int32.ofInt (w))), some (.int (Int32.ofInt (0))), none, none, none, none, none, none], [], ml_mk h τ)) (show jw_cd cd_270 102 = some (.istore 5) by decide +kernel) rfl ?_
      refine jr_1 jm_270 (show jw_cd cd_270 104 = some (.goto 257) by decide +kernel) (ju_go (t := 361) (by decide)) ?_
      exact kk
    have hn : ¬ nulO (some (i, F)) = true := fun z => h0 (of_decide_eq_true z)
    by_cases h1 : i.1 = 1
    · rw [et, decide_eq_false (fun z => z.2.1 h1)] at kk
      refine jr_1 jm_270 (show jw_cd cd_270 30 = some (.aload_n 0) by decide +kernel) rfl ?_
      refine jr_1 jm_270 (show jw_cd cd_270 31 = some (.iload 4) by decide +kernel) rfl ?_
      refine jr_c jm_270 (show jw_cd cd_270 33 = some (.invokevirtual 270) by decide +kernel) (mc_v hl (n := 1) (m2 := 263) (bs := [.int (Int32.ofInt (w))]) (r := []) (show jw_find jw_cvT 34 270 = some (1, [(16, 263)]) by decide +kernel) (by decide) rfl rfl rfl) jm_263 ⟨Nat.le_of_ble_eq_true rfl, by decide⟩ (jn_isN0 hl hA hO hok hn) ?_
      refine jr_1 jm_270 (show jw_cd cd_270 36 = some (.ifCond .ne 65) by decide +kernel) (mz_f (q := .ne) (a := 0) (by show ¬ (¬ (0 = 0)); omega) ⟨by omega, by omega⟩ (by decide)) ?_
      refine jr_1 jm_270 (show jw_cd cd_270 39 = some (.aload_n 0) by decide +kernel) rfl ?_
      refine jr_1 jm_270 (show jw_cd cd_270 40 = some (.getfield 13) by decide +kernel) (mg_a hl (a := 17) (show jw_fld 34 13 16 = some 3 by decide +kernel) (by decide) (by decide)) ?_
      refine jr_1 jm_270 (show jw_cd cd_270 43 = some (.iload 4) by decide +kernel) rfl ?_
      refine jr_1 jm_270 (show jw_cd cd_270 45 = some (.iaload) by decide +kernel) (ma_i hl (i := w) (e := i.1) 3 (by omega) (by show _ < ((1740 : Nat) : Int); omega) n3 (by decide) (by decide) (by decide)) ?_
      refine jr_1 jm_270 (show jw_cd cd_270 46 = some (.iconst 1) by decide +kernel) rfl ?_
      refine jr_1 jm_270 (show jw_cd cd_270 47 = some (.if_icmp .eq 54) by decide +kernel) (mb_t (q := .eq) (a := i.1) (b := 1) (t := 101) (by show i.1 = 1; omega) ⟨by omega, by omega⟩ ⟨by omega, by omega⟩ (by decide) (by decide)) ?_
      refine jr_1 jm_270 (show jw_cd cd_270 101 = some (.iconst 0) by decide +kernel) rfl ?_
      refine jr_1 jm_270 (F2 := (104, [some (.ref 15), some (.int (Int32.ofInt (s))), some (.int (Int32.ofInt (e))), some (.int (Int32.ofInt (nn))), some (.int (Int32.ofInt (w))), some (.int (Int32.ofInt (0))), none, none, none, none, none, none], [], ml_mk h τ)) (show jw_cd cd_270 102 = some (.istore 5) by decide +kernel) rfl ?_
      refine jr_1 jm_270 (show jw_cd cd_270 104 = some (.goto 257) by decide +kernel) (ju_go (t := 361) (by decide)) ?_
      exact kk
    by_cases h3 : i.1 < 4
    · rw [et, decide_eq_true ⟨h0, h1, Or.inl h3⟩] at kk
      refine jr_1 jm_270 (show jw_cd cd_270 30 = some (.aload_n 0) by decide +kernel) rfl ?_
      refine jr_1 jm_270 (show jw_cd cd_270 31 = some (.iload 4) by decide +kernel) rfl ?_
      refine jr_c jm_270 (show jw_cd cd_270 33 = some (.invokevirtual 270) by decide +kernel) (mc_v hl (n := 1) (m2 := 263) (bs := [.int (Int32.ofInt (w))]) (r := []) (show jw_find jw_cvT 34 270 = some (1, [(16, 263)]) by decide +kernel) (by decide) rfl rfl rfl) jm_263 ⟨Nat.le_of_ble_eq_true rfl, by decide⟩ (jn_isN0 hl hA hO hok hn) ?_
      refine jr_1 jm_270 (show jw_cd cd_270 36 = some (.ifCond .ne 65) by decide +kernel) (mz_f (q := .ne) (a := 0) (by show ¬ (¬ (0 = 0)); omega) ⟨by omega, by omega⟩ (by decide)) ?_
      refine jr_1 jm_270 (show jw_cd cd_270 39 = some (.aload_n 0) by decide +kernel) rfl ?_
      refine jr_1 jm_270 (show jw_cd cd_270 40 = some (.getfield 13) by decide +kernel) (mg_a hl (a := 17) (show jw_fld 34 13 16 = some 3 by decide +kernel) (by decide) (by decide)) ?_
      refine jr_1 jm_270 (show jw_cd cd_270 43 = some (.iload 4) by decide +kernel) rfl ?_
      refine jr_1 jm_270 (show jw_cd cd_270 45 = some (.iaload) by decide +kernel) (ma_i hl (i := w) (e := i.1) 3 (by omega) (by show _ < ((1740 : Nat) : Int); omega) n3 (by decide) (by decide) (by decide)) ?_
      refine jr_1 jm_270 (show jw_cd cd_270 46 = some (.iconst 1) by decide +kernel) rfl ?_
      refine jr_1 jm_270 (show jw_cd cd_270 47 = some (.if_icmp .eq 54) by decide +kernel) (mb_f (q := .eq) (a := i.1) (b := 1) (by show ¬ (i.1 = 1); omega) ⟨by omega, by omega⟩ ⟨by omega, by omega⟩ (by decide)) ?_
      refine jr_1 jm_270 (show jw_cd cd_270 50 = some (.aload_n 0) by decide +kernel) rfl ?_
      refine jr_1 jm_270 (show jw_cd cd_270 51 = some (.getfield 13) by decide +kernel) (mg_a hl (a := 17) (show jw_fld 34 13 16 = some 3 by decide +kernel) (by decide) (by decide)) ?_
      refine jr_1 jm_270 (show jw_cd cd_270 54 = some (.iload 4) by decide +kernel) rfl ?_
      refine jr_1 jm_270 (show jw_cd cd_270 56 = some (.iaload) by decide +kernel) (ma_i hl (i := w) (e := i.1) 3 (by omega) (by show _ < ((1740 : Nat) : Int); omega) n3 (by decide) (by decide) (by decide)) ?_
      refine jr_1 jm_270 (show jw_cd cd_270 57 = some (.iconst 4) by decide +kernel) rfl ?_
      refine jr_1 jm_270 (show jw_cd cd_270 58 = some (.if_icmp .lt 39) by decide +kernel) (mb_t (q := .lt) (a := i.1) (b := 4) (t := 97) (by show i.1 < 4; omega) ⟨by omega, by omega⟩ ⟨by omega, by omega⟩ (by decide) (by decide)) ?_
      refine jr_1 jm_270 (show jw_cd cd_270 97 = some (.iconst 1) by decide +kernel) rfl ?_
      refine jr_1 jm_270 (show jw_cd cd_270 98 = some (.goto 4) by decide +kernel) (ju_go (t := 102) (by decide)) ?_
      refine jr_1 jm_270 (F2 := (104, [some (.ref 15), some (.int (Int32.ofInt (s))), some (.int (Int32.ofInt (e))), some (.int (Int32.ofInt (nn))), some (.int (Int32.ofInt (w))), some (.int (Int32.ofInt (1))), none, none, none, none, none, none], [], ml_mk h τ)) (show jw_cd cd_270 102 = some (.istore 5) by decide +kernel) rfl ?_
      refine jr_1 jm_270 (show jw_cd cd_270 104 = some (.goto 257) by decide +kernel) (ju_go (t := 361) (by decide)) ?_
      exact kk
    by_cases h4 : i.1 = 4
    · by_cases hs0 : i.2.2.1 = []
      · rw [et, decide_eq_false (fun z => by rcases z.2.2 with z | ⟨-, z⟩ | ⟨z, -⟩; exact h3 z; exact z hs0; omega)] at kk
        refine jr_1 jm_270 (show jw_cd cd_270 30 = some (.aload_n 0) by decide +kernel) rfl ?_
        refine jr_1 jm_270 (show jw_cd cd_270 31 = some (.iload 4) by decide +kernel) rfl ?_
        refine jr_c jm_270 (show jw_cd cd_270 33 = some (.invokevirtual 270) by decide +kernel) (mc_v hl (n := 1) (m2 := 263) (bs := [.int (Int32.ofInt (w))]) (r := []) (show jw_find jw_cvT 34 270 = some (1, [(16, 263)]) by decide +kernel) (by decide) rfl rfl rfl) jm_263 ⟨Nat.le_of_ble_eq_true rfl, by decide⟩ (jn_isN0 hl hA hO hok hn) ?_
        refine jr_1 jm_270 (show jw_cd cd_270 36 = some (.ifCond .ne 65) by decide +kernel) (mz_f (q := .ne) (a := 0) (by show ¬ (¬ (0 = 0)); omega) ⟨by omega, by omega⟩ (by decide)) ?_
        refine jr_1 jm_270 (show jw_cd cd_270 39 = some (.aload_n 0) by decide +kernel) rfl ?_
        refine jr_1 jm_270 (show jw_cd cd_270 40 = some (.getfield 13) by decide +kernel) (mg_a hl (a := 17) (show jw_fld 34 13 16 = some 3 by decide +kernel) (by decide) (by decide)) ?_
        refine jr_1 jm_270 (show jw_cd cd_270 43 = some (.iload 4) by decide +kernel) rfl ?_
        refine jr_1 jm_270 (show jw_cd cd_270 45 = some (.iaload) by decide +kernel) (ma_i hl (i := w) (e := i.1) 3 (by omega) (by show _ < ((1740 : Nat) : Int); omega) n3 (by decide) (by decide) (by decide)) ?_
        refine jr_1 jm_270 (show jw_cd cd_270 46 = some (.iconst 1) by decide +kernel) rfl ?_
        refine jr_1 jm_270 (show jw_cd cd_270 47 = some (.if_icmp .eq 54) by decide +kernel) (mb_f (q := .eq) (a := i.1) (b := 1) (by show ¬ (i.1 = 1); omega) ⟨by omega, by omega⟩ ⟨by omega, by omega⟩ (by decide)) ?_
        refine jr_1 jm_270 (show jw_cd cd_270 50 = some (.aload_n 0) by decide +kernel) rfl ?_
        refine jr_1 jm_270 (show jw_cd cd_270 51 = some (.getfield 13) by decide +kernel) (mg_a hl (a := 17) (show jw_fld 34 13 16 = some 3 by decide +kernel) (by decide) (by decide)) ?_
        refine jr_1 jm_270 (show jw_cd cd_270 54 = some (.iload 4) by decide +kernel) rfl ?_
        refine jr_1 jm_270 (show jw_cd cd_270 56 = some (.iaload) by decide +kernel) (ma_i hl (i := w) (e := i.1) 3 (by omega) (by show _ < ((1740 : Nat) : Int); omega) n3 (by decide) (by decide) (by decide)) ?_
        refine jr_1 jm_270 (show jw_cd cd_270 57 = some (.iconst 4) by decide +kernel) rfl ?_
        refine jr_1 jm_270 (show jw_cd cd_270 58 = some (.if_icmp .lt 39) by decide +kernel) (mb_f (q := .lt) (a := i.1) (b := 4) (by show ¬ (i.1 < 4); omega) ⟨by omega, by omega⟩ ⟨by omega, by omega⟩ (by decide)) ?_
        refine jr_1 jm_270 (show jw_cd cd_270 61 = some (.aload_n 0) by decide +kernel) rfl ?_
        refine jr_1 jm_270 (show jw_cd cd_270 62 = some (.getfield 13) by decide +kernel) (mg_a hl (a := 17) (show jw_fld 34 13 16 = some 3 by decide +kernel) (by decide) (by decide)) ?_
        refine jr_1 jm_270 (show jw_cd cd_270 65 = some (.iload 4) by decide +kernel) rfl ?_
        refine jr_1 jm_270 (show jw_cd cd_270 67 = some (.iaload) by decide +kernel) (ma_i hl (i := w) (e := i.1) 3 (by omega) (by show _ < ((1740 : Nat) : Int); omega) n3 (by decide) (by decide) (by decide)) ?_
        refine jr_1 jm_270 (show jw_cd cd_270 68 = some (.iconst 4) by decide +kernel) rfl ?_
        refine jr_1 jm_270 (show jw_cd cd_270 69 = some (.if_icmp .ne 18) by decide +kernel) (mb_f (q := .ne) (a := i.1) (b := 4) (by show ¬ (¬ (i.1 = 4)); omega) ⟨by omega, by omega⟩ ⟨by omega, by omega⟩ (by decide)) ?_
        refine jr_1 jm_270 (show jw_cd cd_270 72 = some (.aload_n 0) by decide +kernel) rfl ?_
        refine jr_1 jm_270 (show jw_cd cd_270 73 = some (.getfield 19) by decide +kernel) (mg_a hl (a := 19) (show jw_fld 34 19 16 = some 5 by decide +kernel) (by decide) (by decide)) ?_
        refine jr_1 jm_270 (show jw_cd cd_270 76 = some (.iload 4) by decide +kernel) rfl ?_
        refine jr_1 jm_270 (show jw_cd cd_270 78 = some (.laload) by decide +kernel) (ma_j hl (i := w) (e := pk i.2.2.1) 5 (by omega) (by show _ < ((1740 : Nat) : Int); omega) n5 (by decide) (by decide) (by decide)) ?_
        refine jr_1 jm_270 (F2 := (80, [some (.ref 15), some (.int (Int32.ofInt (s))), some (.int (Int32.ofInt (e))), some (.int (Int32.ofInt (nn))), some (.int (Int32.ofInt (w))), none, none, none, none, none, none, none], [.long (Int64.ofInt (0)), .long (Int64.ofInt (pk i.2.2.1))], ml_mk h τ)) (show jw_cd cd_270 79 = some (.lconst 0) by decide +kernel) rfl ?_
        refine jr_1 jm_270 (show jw_cd cd_270 80 = some (.lcmp) by decide +kernel) (mt_cmp (r := 0) ⟨by have := (pk_b htx).1; omega, by have := (pk_b htx).2; omega⟩ ⟨by decide, by decide⟩ (by rw [hs0]; rfl)) ?_
        refine jr_1 jm_270 (show jw_cd cd_270 81 = some (.ifCond .eq 20) by decide +kernel) (mz_t (q := .eq) (a := 0) (t := 101) (by show 0 = 0; omega) ⟨by omega, by omega⟩ (by decide) (by decide)) ?_
        refine jr_1 jm_270 (show jw_cd cd_270 101 = some (.iconst 0) by decide +kernel) rfl ?_
        refine jr_1 jm_270 (F2 := (104, [some (.ref 15), some (.int (Int32.ofInt (s))), some (.int (Int32.ofInt (e))), some (.int (Int32.ofInt (nn))), some (.int (Int32.ofInt (w))), some (.int (Int32.ofInt (0))), none, none, none, none, none, none], [], ml_mk h τ)) (show jw_cd cd_270 102 = some (.istore 5) by decide +kernel) rfl ?_
        refine jr_1 jm_270 (show jw_cd cd_270 104 = some (.goto 257) by decide +kernel) (ju_go (t := 361) (by decide)) ?_
        exact kk
      · rw [et, decide_eq_true ⟨h0, h1, Or.inr (Or.inl ⟨h4, hs0⟩)⟩] at kk
        have hp0 : ¬ pk i.2.2.1 = 0 := fun z => hs0 ((pk_inj htx tx_nil).mp z)
        have hpb := (pk_b htx).1
        refine jr_1 jm_270 (show jw_cd cd_270 30 = some (.aload_n 0) by decide +kernel) rfl ?_
        refine jr_1 jm_270 (show jw_cd cd_270 31 = some (.iload 4) by decide +kernel) rfl ?_
        refine jr_c jm_270 (show jw_cd cd_270 33 = some (.invokevirtual 270) by decide +kernel) (mc_v hl (n := 1) (m2 := 263) (bs := [.int (Int32.ofInt (w))]) (r := []) (show jw_find jw_cvT 34 270 = some (1, [(16, 263)]) by decide +kernel) (by decide) rfl rfl rfl) jm_263 ⟨Nat.le_of_ble_eq_true rfl, by decide⟩ (jn_isN0 hl hA hO hok hn) ?_
        refine jr_1 jm_270 (show jw_cd cd_270 36 = some (.ifCond .ne 65) by decide +kernel) (mz_f (q := .ne) (a := 0) (by show ¬ (¬ (0 = 0)); omega) ⟨by omega, by omega⟩ (by decide)) ?_
        refine jr_1 jm_270 (show jw_cd cd_270 39 = some (.aload_n 0) by decide +kernel) rfl ?_
        refine jr_1 jm_270 (show jw_cd cd_270 40 = some (.getfield 13) by decide +kernel) (mg_a hl (a := 17) (show jw_fld 34 13 16 = some 3 by decide +kernel) (by decide) (by decide)) ?_
        refine jr_1 jm_270 (show jw_cd cd_270 43 = some (.iload 4) by decide +kernel) rfl ?_
        refine jr_1 jm_270 (show jw_cd cd_270 45 = some (.iaload) by decide +kernel) (ma_i hl (i := w) (e := i.1) 3 (by omega) (by show _ < ((1740 : Nat) : Int); omega) n3 (by decide) (by decide) (by decide)) ?_
        refine jr_1 jm_270 (show jw_cd cd_270 46 = some (.iconst 1) by decide +kernel) rfl ?_
        refine jr_1 jm_270 (show jw_cd cd_270 47 = some (.if_icmp .eq 54) by decide +kernel) (mb_f (q := .eq) (a := i.1) (b := 1) (by show ¬ (i.1 = 1); omega) ⟨by omega, by omega⟩ ⟨by omega, by omega⟩ (by decide)) ?_
        refine jr_1 jm_270 (show jw_cd cd_270 50 = some (.aload_n 0) by decide +kernel) rfl ?_
        refine jr_1 jm_270 (show jw_cd cd_270 51 = some (.getfield 13) by decide +kernel) (mg_a hl (a := 17) (show jw_fld 34 13 16 = some 3 by decide +kernel) (by decide) (by decide)) ?_
        refine jr_1 jm_270 (show jw_cd cd_270 54 = some (.iload 4) by decide +kernel) rfl ?_
        refine jr_1 jm_270 (show jw_cd cd_270 56 = some (.iaload) by decide +kernel) (ma_i hl (i := w) (e := i.1) 3 (by omega) (by show _ < ((1740 : Nat) : Int); omega) n3 (by decide) (by decide) (by decide)) ?_
        refine jr_1 jm_270 (show jw_cd cd_270 57 = some (.iconst 4) by decide +kernel) rfl ?_
        refine jr_1 jm_270 (show jw_cd cd_270 58 = some (.if_icmp .lt 39) by decide +kernel) (mb_f (q := .lt) (a := i.1) (b := 4) (by show ¬ (i.1 < 4); omega) ⟨by omega, by omega⟩ ⟨by omega, by omega⟩ (by decide)) ?_
        refine jr_1 jm_270 (show jw_cd cd_270 61 = some (.aload_n 0) by decide +kernel) rfl ?_
        refine jr_1 jm_270 (show jw_cd cd_270 62 = some (.getfield 13) by decide +kernel) (mg_a hl (a := 17) (show jw_fld 34 13 16 = some 3 by decide +kernel) (by decide) (by decide)) ?_
        refine jr_1 jm_270 (show jw_cd cd_270 65 = some (.iload 4) by decide +kernel) rfl ?_
        refine jr_1 jm_270 (show jw_cd cd_270 67 = some (.iaload) by decide +kernel) (ma_i hl (i := w) (e := i.1) 3 (by omega) (by show _ < ((1740 : Nat) : Int); omega) n3 (by decide) (by decide) (by decide)) ?_
        refine jr_1 jm_270 (show jw_cd cd_270 68 = some (.iconst 4) by decide +kernel) rfl ?_
        refine jr_1 jm_270 (show jw_cd cd_270 69 = some (.if_icmp .ne 18) by decide +kernel) (mb_f (q := .ne) (a := i.1) (b := 4) (by show ¬ (¬ (i.1 = 4)); omega) ⟨by omega, by omega⟩ ⟨by omega, by omega⟩ (by decide)) ?_
        refine jr_1 jm_270 (show jw_cd cd_270 72 = some (.aload_n 0) by decide +kernel) rfl ?_
        refine jr_1 jm_270 (show jw_cd cd_270 73 = some (.getfield 19) by decide +kernel) (mg_a hl (a := 19) (show jw_fld 34 19 16 = some 5 by decide +kernel) (by decide) (by decide)) ?_
        refine jr_1 jm_270 (show jw_cd cd_270 76 = some (.iload 4) by decide +kernel) rfl ?_
        refine jr_1 jm_270 (show jw_cd cd_270 78 = some (.laload) by decide +kernel) (ma_j hl (i := w) (e := pk i.2.2.1) 5 (by omega) (by show _ < ((1740 : Nat) : Int); omega) n5 (by decide) (by decide) (by decide)) ?_
        refine jr_1 jm_270 (F2 := (80, [some (.ref 15), some (.int (Int32.ofInt (s))), some (.int (Int32.ofInt (e))), some (.int (Int32.ofInt (nn))), some (.int (Int32.ofInt (w))), none, none, none, none, none, none, none], [.long (Int64.ofInt (0)), .long (Int64.ofInt (pk i.2.2.1))], ml_mk h τ)) (show jw_cd cd_270 79 = some (.lconst 0) by decide +kernel) rfl ?_
        refine jr_1 jm_270 (show jw_cd cd_270 80 = some (.lcmp) by decide +kernel) (mt_cmp (r := 1) ⟨by have := (pk_b htx).1; omega, by have := (pk_b htx).2; omega⟩ ⟨by decide, by decide⟩ (by rw [if_neg (by omega), if_neg hp0])) ?_
        refine jr_1 jm_270 (show jw_cd cd_270 81 = some (.ifCond .eq 20) by decide +kernel) (mz_f (q := .eq) (a := 1) (by show ¬ (1 = 0); omega) ⟨by omega, by omega⟩ (by decide)) ?_
        refine jr_1 jm_270 (show jw_cd cd_270 84 = some (.goto 13) by decide +kernel) (ju_go (t := 97) (by decide)) ?_
        refine jr_1 jm_270 (show jw_cd cd_270 97 = some (.iconst 1) by decide +kernel) rfl ?_
        refine jr_1 jm_270 (show jw_cd cd_270 98 = some (.goto 4) by decide +kernel) (ju_go (t := 102) (by decide)) ?_
        refine jr_1 jm_270 (F2 := (104, [some (.ref 15), some (.int (Int32.ofInt (s))), some (.int (Int32.ofInt (e))), some (.int (Int32.ofInt (nn))), some (.int (Int32.ofInt (w))), some (.int (Int32.ofInt (1))), none, none, none, none, none, none], [], ml_mk h τ)) (show jw_cd cd_270 102 = some (.istore 5) by decide +kernel) rfl ?_
        refine jr_1 jm_270 (show jw_cd cd_270 104 = some (.goto 257) by decide +kernel) (ju_go (t := 361) (by decide)) ?_
        exact kk
    · by_cases h5 : 0 < fsz F
      · rw [et, decide_eq_true ⟨h0, h1, Or.inr (Or.inr ⟨by omega, h5⟩)⟩] at kk
        refine jr_1 jm_270 (show jw_cd cd_270 30 = some (.aload_n 0) by decide +kernel) rfl ?_
        refine jr_1 jm_270 (show jw_cd cd_270 31 = some (.iload 4) by decide +kernel) rfl ?_
        refine jr_c jm_270 (show jw_cd cd_270 33 = some (.invokevirtual 270) by decide +kernel) (mc_v hl (n := 1) (m2 := 263) (bs := [.int (Int32.ofInt (w))]) (r := []) (show jw_find jw_cvT 34 270 = some (1, [(16, 263)]) by decide +kernel) (by decide) rfl rfl rfl) jm_263 ⟨Nat.le_of_ble_eq_true rfl, by decide⟩ (jn_isN0 hl hA hO hok hn) ?_
        refine jr_1 jm_270 (show jw_cd cd_270 36 = some (.ifCond .ne 65) by decide +kernel) (mz_f (q := .ne) (a := 0) (by show ¬ (¬ (0 = 0)); omega) ⟨by omega, by omega⟩ (by decide)) ?_
        refine jr_1 jm_270 (show jw_cd cd_270 39 = some (.aload_n 0) by decide +kernel) rfl ?_
        refine jr_1 jm_270 (show jw_cd cd_270 40 = some (.getfield 13) by decide +kernel) (mg_a hl (a := 17) (show jw_fld 34 13 16 = some 3 by decide +kernel) (by decide) (by decide)) ?_
        refine jr_1 jm_270 (show jw_cd cd_270 43 = some (.iload 4) by decide +kernel) rfl ?_
        refine jr_1 jm_270 (show jw_cd cd_270 45 = some (.iaload) by decide +kernel) (ma_i hl (i := w) (e := i.1) 3 (by omega) (by show _ < ((1740 : Nat) : Int); omega) n3 (by decide) (by decide) (by decide)) ?_
        refine jr_1 jm_270 (show jw_cd cd_270 46 = some (.iconst 1) by decide +kernel) rfl ?_
        refine jr_1 jm_270 (show jw_cd cd_270 47 = some (.if_icmp .eq 54) by decide +kernel) (mb_f (q := .eq) (a := i.1) (b := 1) (by show ¬ (i.1 = 1); omega) ⟨by omega, by omega⟩ ⟨by omega, by omega⟩ (by decide)) ?_
        refine jr_1 jm_270 (show jw_cd cd_270 50 = some (.aload_n 0) by decide +kernel) rfl ?_
        refine jr_1 jm_270 (show jw_cd cd_270 51 = some (.getfield 13) by decide +kernel) (mg_a hl (a := 17) (show jw_fld 34 13 16 = some 3 by decide +kernel) (by decide) (by decide)) ?_
        refine jr_1 jm_270 (show jw_cd cd_270 54 = some (.iload 4) by decide +kernel) rfl ?_
        refine jr_1 jm_270 (show jw_cd cd_270 56 = some (.iaload) by decide +kernel) (ma_i hl (i := w) (e := i.1) 3 (by omega) (by show _ < ((1740 : Nat) : Int); omega) n3 (by decide) (by decide) (by decide)) ?_
        refine jr_1 jm_270 (show jw_cd cd_270 57 = some (.iconst 4) by decide +kernel) rfl ?_
        refine jr_1 jm_270 (show jw_cd cd_270 58 = some (.if_icmp .lt 39) by decide +kernel) (mb_f (q := .lt) (a := i.1) (b := 4) (by show ¬ (i.1 < 4); omega) ⟨by omega, by omega⟩ ⟨by omega, by omega⟩ (by decide)) ?_
        refine jr_1 jm_270 (show jw_cd cd_270 61 = some (.aload_n 0) by decide +kernel) rfl ?_
        refine jr_1 jm_270 (show jw_cd cd_270 62 = some (.getfield 13) by decide +kernel) (mg_a hl (a := 17) (show jw_fld 34 13 16 = some 3 by decide +kernel) (by decide) (by decide)) ?_
        refine jr_1 jm_270 (show jw_cd cd_270 65 = some (.iload 4) by decide +kernel) rfl ?_
        refine jr_1 jm_270 (show jw_cd cd_270 67 = some (.iaload) by decide +kernel) (ma_i hl (i := w) (e := i.1) 3 (by omega) (by show _ < ((1740 : Nat) : Int); omega) n3 (by decide) (by decide) (by decide)) ?_
        refine jr_1 jm_270 (show jw_cd cd_270 68 = some (.iconst 4) by decide +kernel) rfl ?_
        refine jr_1 jm_270 (show jw_cd cd_270 69 = some (.if_icmp .ne 18) by decide +kernel) (mb_t (q := .ne) (a := i.1) (b := 4) (t := 87) (by show ¬ (i.1 = 4); omega) ⟨by omega, by omega⟩ ⟨by omega, by omega⟩ (by decide) (by decide)) ?_
        refine jr_1 jm_270 (show jw_cd cd_270 87 = some (.aload_n 0) by decide +kernel) rfl ?_
        refine jr_1 jm_270 (show jw_cd cd_270 88 = some (.getfield 26) by decide +kernel) (mg_a hl (a := 21) (show jw_fld 34 26 16 = some 7 by decide +kernel) (by decide) (by decide)) ?_
        refine jr_1 jm_270 (show jw_cd cd_270 91 = some (.iload 4) by decide +kernel) rfl ?_
        refine jr_1 jm_270 (show jw_cd cd_270 93 = some (.iaload) by decide +kernel) (ma_i hl (i := w) (e := (fsz F : Int)) 7 (by omega) (by show _ < ((1740 : Nat) : Int); omega) n7 (by decide) (by decide) (by decide)) ?_
        refine jr_1 jm_270 (show jw_cd cd_270 94 = some (.ifCond .le 7) by decide +kernel) (mz_f (q := .le) (a := (fsz F : Int)) (by show ¬ ((fsz F : Int) ≤ 0); omega) ⟨by omega, by omega⟩ (by decide)) ?_
        refine jr_1 jm_270 (show jw_cd cd_270 97 = some (.iconst 1) by decide +kernel) rfl ?_
        refine jr_1 jm_270 (show jw_cd cd_270 98 = some (.goto 4) by decide +kernel) (ju_go (t := 102) (by decide)) ?_
        refine jr_1 jm_270 (F2 := (104, [some (.ref 15), some (.int (Int32.ofInt (s))), some (.int (Int32.ofInt (e))), some (.int (Int32.ofInt (nn))), some (.int (Int32.ofInt (w))), some (.int (Int32.ofInt (1))), none, none, none, none, none, none], [], ml_mk h τ)) (show jw_cd cd_270 102 = some (.istore 5) by decide +kernel) rfl ?_
        refine jr_1 jm_270 (show jw_cd cd_270 104 = some (.goto 257) by decide +kernel) (ju_go (t := 361) (by decide)) ?_
        exact kk
      · rw [et, decide_eq_false (fun z => by rcases z.2.2 with z | ⟨z, -⟩ | ⟨-, z⟩; exact h3 z; exact h4 z; exact h5 z)] at kk
        refine jr_1 jm_270 (show jw_cd cd_270 30 = some (.aload_n 0) by decide +kernel) rfl ?_
        refine jr_1 jm_270 (show jw_cd cd_270 31 = some (.iload 4) by decide +kernel) rfl ?_
        refine jr_c jm_270 (show jw_cd cd_270 33 = some (.invokevirtual 270) by decide +kernel) (mc_v hl (n := 1) (m2 := 263) (bs := [.int (Int32.ofInt (w))]) (r := []) (show jw_find jw_cvT 34 270 = some (1, [(16, 263)]) by decide +kernel) (by decide) rfl rfl rfl) jm_263 ⟨Nat.le_of_ble_eq_true rfl, by decide⟩ (jn_isN0 hl hA hO hok hn) ?_
        refine jr_1 jm_270 (show jw_cd cd_270 36 = some (.ifCond .ne 65) by decide +kernel) (mz_f (q := .ne) (a := 0) (by show ¬ (¬ (0 = 0)); omega) ⟨by omega, by omega⟩ (by decide)) ?_
        refine jr_1 jm_270 (show jw_cd cd_270 39 = some (.aload_n 0) by decide +kernel) rfl ?_
        refine jr_1 jm_270 (show jw_cd cd_270 40 = some (.getfield 13) by decide +kernel) (mg_a hl (a := 17) (show jw_fld 34 13 16 = some 3 by decide +kernel) (by decide) (by decide)) ?_
        refine jr_1 jm_270 (show jw_cd cd_270 43 = some (.iload 4) by decide +kernel) rfl ?_
        refine jr_1 jm_270 (show jw_cd cd_270 45 = some (.iaload) by decide +kernel) (ma_i hl (i := w) (e := i.1) 3 (by omega) (by show _ < ((1740 : Nat) : Int); omega) n3 (by decide) (by decide) (by decide)) ?_
        refine jr_1 jm_270 (show jw_cd cd_270 46 = some (.iconst 1) by decide +kernel) rfl ?_
        refine jr_1 jm_270 (show jw_cd cd_270 47 = some (.if_icmp .eq 54) by decide +kernel) (mb_f (q := .eq) (a := i.1) (b := 1) (by show ¬ (i.1 = 1); omega) ⟨by omega, by omega⟩ ⟨by omega, by omega⟩ (by decide)) ?_
        refine jr_1 jm_270 (show jw_cd cd_270 50 = some (.aload_n 0) by decide +kernel) rfl ?_
        refine jr_1 jm_270 (show jw_cd cd_270 51 = some (.getfield 13) by decide +kernel) (mg_a hl (a := 17) (show jw_fld 34 13 16 = some 3 by decide +kernel) (by decide) (by decide)) ?_
        refine jr_1 jm_270 (show jw_cd cd_270 54 = some (.iload 4) by decide +kernel) rfl ?_
        refine jr_1 jm_270 (show jw_cd cd_270 56 = some (.iaload) by decide +kernel) (ma_i hl (i := w) (e := i.1) 3 (by omega) (by show _ < ((1740 : Nat) : Int); omega) n3 (by decide) (by decide) (by decide)) ?_
        refine jr_1 jm_270 (show jw_cd cd_270 57 = some (.iconst 4) by decide +kernel) rfl ?_
        refine jr_1 jm_270 (show jw_cd cd_270 58 = some (.if_icmp .lt 39) by decide +kernel) (mb_f (q := .lt) (a := i.1) (b := 4) (by show ¬ (i.1 < 4); omega) ⟨by omega, by omega⟩ ⟨by omega, by omega⟩ (by decide)) ?_
        refine jr_1 jm_270 (show jw_cd cd_270 61 = some (.aload_n 0) by decide +kernel) rfl ?_
        refine jr_1 jm_270 (show jw_cd cd_270 62 = some (.getfield 13) by decide +kernel) (mg_a hl (a := 17) (show jw_fld 34 13 16 = some 3 by decide +kernel) (by decide) (by decide)) ?_
        refine jr_1 jm_270 (show jw_cd cd_270 65 = some (.iload 4) by decide +kernel) rfl ?_
        refine jr_1 jm_270 (show jw_cd cd_270 67 = some (.iaload) by decide +kernel) (ma_i hl (i := w) (e := i.1) 3 (by omega) (by show _ < ((1740 : Nat) : Int); omega) n3 (by decide) (by decide) (by decide)) ?_
        refine jr_1 jm_270 (show jw_cd cd_270 68 = some (.iconst 4) by decide +kernel) rfl ?_
        refine jr_1 jm_270 (show jw_cd cd_270 69 = some (.if_icmp .ne 18) by decide +kernel) (mb_t (q := .ne) (a := i.1) (b := 4) (t := 87) (by show ¬ (i.1 = 4); omega) ⟨by omega, by omega⟩ ⟨by omega, by omega⟩ (by decide) (by decide)) ?_
        refine jr_1 jm_270 (show jw_cd cd_270 87 = some (.aload_n 0) by decide +kernel) rfl ?_
        refine jr_1 jm_270 (show jw_cd cd_270 88 = some (.getfield 26) by decide +kernel) (mg_a hl (a := 21) (show jw_fld 34 26 16 = some 7 by decide +kernel) (by decide) (by decide)) ?_
        refine jr_1 jm_270 (show jw_cd cd_270 91 = some (.iload 4) by decide +kernel) rfl ?_
        refine jr_1 jm_270 (show jw_cd cd_270 93 = some (.iaload) by decide +kernel) (ma_i hl (i := w) (e := (fsz F : Int)) 7 (by omega) (by show _ < ((1740 : Nat) : Int); omega) n7 (by decide) (by decide) (by decide)) ?_
        refine jr_1 jm_270 (show jw_cd cd_270 94 = some (.ifCond .le 7) by decide +kernel) (mz_t (q := .le) (a := (fsz F : Int)) (t := 101) (by show (fsz F : Int) ≤ 0; omega) ⟨by omega, by omega⟩ (by decide) (by decide)) ?_
        refine jr_1 jm_270 (show jw_cd cd_270 101 = some (.iconst 0) by decide +kernel) rfl ?_
        refine jr_1 jm_270 (F2 := (104, [some (.ref 15), some (.int (Int32.ofInt (s))), some (.int (Int32.ofInt (e))), some (.int (Int32.ofInt (nn))), some (.int (Int32.ofInt (w))), some (.int (Int32.ofInt (0))), none, none, none, none, none, none], [], ml_mk h τ)) (show jw_cd cd_270 102 = some (.istore 5) by decide +kernel) rfl ?_
        refine jr_1 jm_270 (show jw_cd cd_270 104 = some (.goto 257) by decide +kernel) (ju_go (t := 361) (by decide)) ?_
        exact kk
theorem eqS_null {x y : Option (tI × FT)} (h : nulO x = true ∨ nulO y = true) : eqS x y = (nulO x && nulO y) := by
  cases x with
  | none => rfl
  | some x =>
    cases y with
    | none => exact (Bool.and_true _).symm
    | some y =>
      obtain ⟨i, F⟩ := x
      obtain ⟨j, E⟩ := y
      have h : i.1 = 0 ∨ j.1 = 0 := by
        rcases h with h | h
        · exact Or.inl (of_decide_eq_true h)
        · exact Or.inr (of_decide_eq_true h)
      show (if i.1 = 0 ∨ j.1 = 0 then decide (i.1 = 0 ∧ j.1 = 0) else pS ((i, F), (j, E))) = (decide (i.1 = 0) && decide (j.1 = 0))
      rw [if_pos h, Bool.decide_and]
theorem jn_ho_eq {β : Bool} {d : Nat} {h : jx_H} {τ : mS} (hl : 49 ≤ h.length) {A B : Int → Prop} (hA : mIx A) (hB : mIx B) {s e nn : Int} {c5 : Option Value} {a b : Int} {x y : Option (tI × FT)} (hOa : mO τ A B a x) (hoka : vokO x) (hOb : mO τ A B b y) (hokb : vokO y) (hca : ∀ i F, x = some (i, F) → fct F ≤ 390) (hcb : ∀ i F, y = some (i, F) → fct F ≤ 390) : ∃ τ', (∀ res, jx_r (jz β) jw_M (d + 2) 270 (173, [some (.ref 15), some (.int (Int32.ofInt (s))), some (.int (Int32.ofInt (e))), some (.int (Int32.ofInt (nn))), some (.int (Int32.ofInt (a))), c5, some (.int (Int32.ofInt (b))), some (.int (Int32.ofInt (if eqS x y = true then 1 else 0))), none, none, none, none], [], ml_mk h τ') res → jx_r (jz β) jw_M (d + 2) 270 (119, [some (.ref 15), some (.int (Int32.ofInt (s))), some (.int (Int32.ofInt (e))), some (.int (Int32.ofInt (nn))), some (.int (Int32.ofInt (a))), c5, some (.int (Int32.ofInt (b))), none, none, none, none, none], [], ml_mk h τ) res) ∧ mEq [43, 44] τ τ' := by
  by_cases hna : nulO x = true
  · by_cases hnb : nulO y = true
    · refine ⟨τ, fun res kk => ?_, mEq_refl _ _⟩
      rw [eqS_null (Or.inl hna), hna, hnb] at kk
      refine jr_1 jm_270 (show jw_cd cd_270 119 = some (.aload_n 0) by decide +kernel) rfl ?_
      refine jr_1 jm_270 (show jw_cd cd_270 120 = some (.iload 4) by decide +kernel) rfl ?_
      refine jr_c jm_270 (show jw_cd cd_270 122 = some (.invokevirtual 270) by decide +kernel) (mc_v hl (n := 1) (m2 := 263) (bs := [.int (Int32.ofInt (a))]) (r := []) (show jw_find jw_cvT 34 270 = some (1, [(16, 263)]) by decide +kernel) (by decide) rfl rfl rfl) jm_263 ⟨Nat.le_of_ble_eq_true rfl, by decide⟩ (jn_isN1 hl hA hOa hoka hna) ?_
      refine jr_1 jm_270 (show jw_cd cd_270 125 = some (.ifCond .ne 12) by decide +kernel) (mz_t (q := .ne) (a := 1) (t := 137) (by show ¬ (1 = 0); omega) ⟨by omega, by omega⟩ (by decide) (by decide)) ?_
      refine jr_1 jm_270 (show jw_cd cd_270 137 = some (.aload_n 0) by decide +kernel) rfl ?_
      refine jr_1 jm_270 (show jw_cd cd_270 138 = some (.iload 4) by decide +kernel) rfl ?_
      refine jr_c jm_270 (show jw_cd cd_270 140 = some (.invokevirtual 270) by decide +kernel) (mc_v hl (n := 1) (m2 := 263) (bs := [.int (Int32.ofInt (a))]) (r := []) (show jw_find jw_cvT 34 270 = some (1, [(16, 263)]) by decide +kernel) (by decide) rfl rfl rfl) jm_263 ⟨Nat.le_of_ble_eq_true rfl, by decide⟩ (jn_isN1 hl hA hOa hoka hna) ?_
      refine jr_1 jm_270 (show jw_cd cd_270 143 = some (.ifCond .eq 16) by decide +kernel) (mz_f (q := .eq) (a := 1) (by show ¬ (1 = 0); omega) ⟨by omega, by omega⟩ (by decide)) ?_
      refine jr_1 jm_270 (show jw_cd cd_270 146 = some (.aload_n 0) by decide +kernel) rfl ?_
      refine jr_1 jm_270 (show jw_cd cd_270 147 = some (.iload 6) by decide +kernel) rfl ?_
      refine jr_c jm_270 (show jw_cd cd_270 149 = some (.invokevirtual 270) by decide +kernel) (mc_v hl (n := 1) (m2 := 263) (bs := [.int (Int32.ofInt (b))]) (r := []) (show jw_find jw_cvT 34 270 = some (1, [(16, 263)]) by decide +kernel) (by decide) rfl rfl rfl) jm_263 ⟨Nat.le_of_ble_eq_true rfl, by decide⟩ (jn_isN1 hl hA hOb hokb hnb) ?_
      refine jr_1 jm_270 (show jw_cd cd_270 152 = some (.ifCond .eq 7) by decide +kernel) (mz_f (q := .eq) (a := 1) (by show ¬ (1 = 0); omega) ⟨by omega, by omega⟩ (by decide)) ?_
      refine jr_1 jm_270 (show jw_cd cd_270 155 = some (.iconst 1) by decide +kernel) rfl ?_
      refine jr_1 jm_270 (show jw_cd cd_270 156 = some (.goto 15) by decide +kernel) (ju_go (t := 171) (by decide)) ?_
      refine jr_1 jm_270 (F2 := (173, [some (.ref 15), some (.int (Int32.ofInt (s))), some (.int (Int32.ofInt (e))), some (.int (Int32.ofInt (nn))), some (.int (Int32.ofInt (a))), c5, some (.int (Int32.ofInt (b))), some (.int (Int32.ofInt (1))), none, none, none, none], [], ml_mk h τ)) (show jw_cd cd_270 171 = some (.istore 7) by decide +kernel) rfl ?_
      exact kk
    · refine ⟨τ, fun res kk => ?_, mEq_refl _ _⟩
      rw [eqS_null (Or.inl hna), hna, Bool.eq_false_iff.mpr hnb] at kk
      refine jr_1 jm_270 (show jw_cd cd_270 119 = some (.aload_n 0) by decide +kernel) rfl ?_
      refine jr_1 jm_270 (show jw_cd cd_270 120 = some (.iload 4) by decide +kernel) rfl ?_
      refine jr_c jm_270 (show jw_cd cd_270 122 = some (.invokevirtual 270) by decide +kernel) (mc_v hl (n := 1) (m2 := 263) (bs := [.int (Int32.ofInt (a))]) (r := []) (show jw_find jw_cvT 34 270 = some (1, [(16, 263)]) by decide +kernel) (by decide) rfl rfl rfl) jm_263 ⟨Nat.le_of_ble_eq_true rfl, by decide⟩ (jn_isN1 hl hA hOa hoka hna) ?_
      refine jr_1 jm_270 (show jw_cd cd_270 125 = some (.ifCond .ne 12) by decide +kernel) (mz_t (q := .ne) (a := 1) (t := 137) (by show ¬ (1 = 0); omega) ⟨by omega, by omega⟩ (by decide) (by decide)) ?_
      refine jr_1 jm_270 (show jw_cd cd_270 137 = some (.aload_n 0) by decide +kernel) rfl ?_
      refine jr_1 jm_270 (show jw_cd cd_270 138 = some (.iload 4) by decide +kernel) rfl ?_
      refine jr_c jm_270 (show jw_cd cd_270 140 = some (.invokevirtual 270) by decide +kernel) (mc_v hl (n := 1) (m2 := 263) (bs := [.int (Int32.ofInt (a))]) (r := []) (show jw_find jw_cvT 34 270 = some (1, [(16, 263)]) by decide +kernel) (by decide) rfl rfl rfl) jm_263 ⟨Nat.le_of_ble_eq_true rfl, by decide⟩ (jn_isN1 hl hA hOa hoka hna) ?_
      refine jr_1 jm_270 (show jw_cd cd_270 143 = some (.ifCond .eq 16) by decide +kernel) (mz_f (q := .eq) (a := 1) (by show ¬ (1 = 0); omega) ⟨by omega, by omega⟩ (by decide)) ?_
      refine jr_1 jm_270 (show jw_cd cd_270 146 = some (.aload_n 0) by decide +kernel) rfl ?_
      refine jr_1 jm_270 (show jw_cd cd_270 147 = some (.iload 6) by decide +kernel) rfl ?_
      refine jr_c jm_270 (show jw_cd cd_270 149 = some (.invokevirtual 270) by decide +kernel) (mc_v hl (n := 1) (m2 := 263) (bs := [.int (Int32.ofInt (b))]) (r := []) (show jw_find jw_cvT 34 270 = some (1, [(16, 263)]) by decide +kernel) (by decide) rfl rfl rfl) jm_263 ⟨Nat.le_of_ble_eq_true rfl, by decide⟩ (jn_isN0 hl hA hOb hokb hnb) ?_
      refine jr_1 jm_270 (show jw_cd cd_270 152 = some (.ifCond .eq 7) by decide +kernel) (mz_t (q := .eq) (a := 0) (t := 159) (by show 0 = 0; omega) ⟨by omega, by omega⟩ (by decide) (by decide)) ?_
      refine jr_1 jm_270 (show jw_cd cd_270 159 = some (.iconst 0) by decide +kernel) rfl ?_
      refine jr_1 jm_270 (show jw_cd cd_270 160 = some (.goto 11) by decide +kernel) (ju_go (t := 171) (by decide)) ?_
      refine jr_1 jm_270 (F2 := (173, [some (.ref 15), some (.int (Int32.ofInt (s))), some (.int (Int32.ofInt (e))), some (.int (Int32.ofInt (nn))), some (.int (Int32.ofInt (a))), c5, some (.int (Int32.ofInt (b))), some (.int (Int32.ofInt (0))), none, none, none, none], [], ml_mk h τ)) (show jw_cd cd_270 171 = some (.istore 7) by decide +kernel) rfl ?_
      exact kk
  · by_cases hnb : nulO y = true
    · refine ⟨τ, fun res kk => ?_, mEq_refl _ _⟩
      rw [eqS_null (Or.inr hnb), hnb, Bool.eq_false_iff.mpr hna] at kk
      refine jr_1 jm_270 (show jw_cd cd_270 119 = some (.aload_n 0) by decide +kernel) rfl ?_
      refine jr_1 jm_270 (show jw_cd cd_270 120 = some (.iload 4) by decide +kernel) rfl ?_
      refine jr_c jm_270 (show jw_cd cd_270 122 = some (.invokevirtual 270) by decide +kernel) (mc_v hl (n := 1) (m2 := 263) (bs := [.int (Int32.ofInt (a))]) (r := []) (show jw_find jw_cvT 34 270 = some (1, [(16, 263)]) by decide +kernel) (by decide) rfl rfl rfl) jm_263 ⟨Nat.le_of_ble_eq_true rfl, by decide⟩ (jn_isN0 hl hA hOa hoka hna) ?_
      refine jr_1 jm_270 (show jw_cd cd_270 125 = some (.ifCond .ne 12) by decide +kernel) (mz_f (q := .ne) (a := 0) (by show ¬ (¬ (0 = 0)); omega) ⟨by omega, by omega⟩ (by decide)) ?_
      refine jr_1 jm_270 (show jw_cd cd_270 128 = some (.aload_n 0) by decide +kernel) rfl ?_
      refine jr_1 jm_270 (show jw_cd cd_270 129 = some (.iload 6) by decide +kernel) rfl ?_
      refine jr_c jm_270 (show jw_cd cd_270 131 = some (.invokevirtual 270) by decide +kernel) (mc_v hl (n := 1) (m2 := 263) (bs := [.int (Int32.ofInt (b))]) (r := []) (show jw_find jw_cvT 34 270 = some (1, [(16, 263)]) by decide +kernel) (by decide) rfl rfl rfl) jm_263 ⟨Nat.le_of_ble_eq_true rfl, by decide⟩ (jn_isN1 hl hA hOb hokb hnb) ?_
      refine jr_1 jm_270 (show jw_cd cd_270 134 = some (.ifCond .eq 29) by decide +kernel) (mz_f (q := .eq) (a := 1) (by show ¬ (1 = 0); omega) ⟨by omega, by omega⟩ (by decide)) ?_
      refine jr_1 jm_270 (show jw_cd cd_270 137 = some (.aload_n 0) by decide +kernel) rfl ?_
      refine jr_1 jm_270 (show jw_cd cd_270 138 = some (.iload 4) by decide +kernel) rfl ?_
      refine jr_c jm_270 (show jw_cd cd_270 140 = some (.invokevirtual 270) by decide +kernel) (mc_v hl (n := 1) (m2 := 263) (bs := [.int (Int32.ofInt (a))]) (r := []) (show jw_find jw_cvT 34 270 = some (1, [(16, 263)]) by decide +kernel) (by decide) rfl rfl rfl) jm_263 ⟨Nat.le_of_ble_eq_true rfl, by decide⟩ (jn_isN0 hl hA hOa hoka hna) ?_
      refine jr_1 jm_270 (show jw_cd cd_270 143 = some (.ifCond .eq 16) by decide +kernel) (mz_t (q := .eq) (a := 0) (t := 159) (by show 0 = 0; omega) ⟨by omega, by omega⟩ (by decide) (by decide)) ?_
      refine jr_1 jm_270 (show jw_cd cd_270 159 = some (.iconst 0) by decide +kernel) rfl ?_
      refine jr_1 jm_270 (show jw_cd cd_270 160 = some (.goto 11) by decide +kernel) (ju_go (t := 171) (by decide)) ?_
      refine jr_1 jm_270 (F2 := (173, [some (.ref 15), some (.int (Int32.ofInt (s))), some (.int (Int32.ofInt (e))), some (.int (Int32.ofInt (nn))), some (.int (Int32.ofInt (a))), c5, some (.int (Int32.ofInt (b))), some (.int (Int32.ofInt (0))), none, none, none, none], [], ml_mk h τ)) (show jw_cd cd_270 171 = some (.istore 7) by decide +kernel) rfl ?_
      exact kk
    · cases x with
      | none => exact absurd rfl hna
      | some x =>
        cases y with
        | none => exact absurd rfl hnb
        | some y =>
          obtain ⟨i, F⟩ := x
          obtain ⟨j, E⟩ := y
          obtain ⟨hi, hF⟩ := hoka i F rfl
          obtain ⟨hj, hE⟩ := hokb j E rfl
          have hE3 := hcb j E rfl
          obtain ⟨τ', r1, r2⟩ := jn_same (β := β) (d := d) hl hA hB hOa hOb hi hj hF hE (hca i F rfl) (by omega)
          refine ⟨τ', fun res kk => ?_, r2⟩
          have hq : eqS (some (i, F)) (some (j, E)) = pS ((i, F), (j, E)) := if_neg (fun z => by
            rcases z with z | z
            · exact hna (decide_eq_true z)
            · exact hnb (decide_eq_true z))
          rw [hq] at kk
          obtain ⟨q, hq⟩ : ∃ q : Int, q = if pS ((i, F), (j, E)) = true then 1 else 0 := ⟨_, rfl⟩
          rw [← hq] at kk r1
          refine jr_1 jm_270 (show jw_cd cd_270 119 = some (.aload_n 0) by decide +kernel) rfl ?_
          refine jr_1 jm_270 (show jw_cd cd_270 120 = some (.iload 4) by decide +kernel) rfl ?_
          refine jr_c jm_270 (show jw_cd cd_270 122 = some (.invokevirtual 270) by decide +kernel) (mc_v hl (n := 1) (m2 := 263) (bs := [.int (Int32.ofInt (a))]) (r := []) (show jw_find jw_cvT 34 270 = some (1, [(16, 263)]) by decide +kernel) (by decide) rfl rfl rfl) jm_263 ⟨Nat.le_of_ble_eq_true rfl, by decide⟩ (jn_isN0 hl hA hOa hoka hna) ?_
          refine jr_1 jm_270 (show jw_cd cd_270 125 = some (.ifCond .ne 12) by decide +kernel) (mz_f (q := .ne) (a := 0) (by show ¬ (¬ (0 = 0)); omega) ⟨by omega, by omega⟩ (by decide)) ?_
          refine jr_1 jm_270 (show jw_cd cd_270 128 = some (.aload_n 0) by decide +kernel) rfl ?_
          refine jr_1 jm_270 (show jw_cd cd_270 129 = some (.iload 6) by decide +kernel) rfl ?_
          refine jr_c jm_270 (show jw_cd cd_270 131 = some (.invokevirtual 270) by decide +kernel) (mc_v hl (n := 1) (m2 := 263) (bs := [.int (Int32.ofInt (b))]) (r := []) (show jw_find jw_cvT 34 270 = some (1, [(16, 263)]) by decide +kernel) (by decide) rfl rfl rfl) jm_263 ⟨Nat.le_of_ble_eq_true rfl, by decide⟩ (jn_isN0 hl hA hOb hokb hnb) ?_
          refine jr_1 jm_270 (show jw_cd cd_270 134 = some (.ifCond .eq 29) by decide +kernel) (mz_t (q := .eq) (a := 0) (t := 163) (by show 0 = 0; omega) ⟨by omega, by omega⟩ (by decide) (by decide)) ?_
          refine jr_1 jm_270 (show jw_cd cd_270 163 = some (.aload_n 0) by decide +kernel) rfl ?_
          refine jr_1 jm_270 (show jw_cd cd_270 164 = some (.iload 4) by decide +kernel) rfl ?_
          refine jr_1 jm_270 (show jw_cd cd_270 166 = some (.iload 6) by decide +kernel) rfl ?_
          refine jr_c jm_270 (show jw_cd cd_270 168 = some (.invokevirtual 273) by decide +kernel) (mc_v hl (n := 2) (m2 := 272) (bs := [.int (Int32.ofInt (a)), .int (Int32.ofInt (b))]) (r := []) (show jw_find jw_cvT 34 273 = some (2, [(16, 272)]) by decide +kernel) (by decide) rfl rfl rfl) jm_272 ⟨Nat.le_of_ble_eq_true rfl, by decide⟩ r1 ?_
          refine jr_1 jm_270 (F2 := (173, [some (.ref 15), some (.int (Int32.ofInt (s))), some (.int (Int32.ofInt (e))), some (.int (Int32.ofInt (nn))), some (.int (Int32.ofInt (a))), c5, some (.int (Int32.ofInt (b))), some (.int (Int32.ofInt (q))), none, none, none, none], [], ml_mk h τ')) (show jw_cd cd_270 171 = some (.istore 7) by decide +kernel) rfl ?_
          exact kk

/-! ===== the model's same (printed by program: gen43.py) ===== -/
abbrev pT : Type := (tI × FT) × (tI × FT)
/-- the same, as far as two nodes tell -/
def hdS (x y : tI × FT) : Bool := decide (x.1.1 = y.1.1) && (decide (fsz x.2 = fsz y.2) && ((decide (¬ x.1.1 = 3) || decide (x.1.2.1 = y.1.2.1)) && (decide (¬ x.1.1 = 4) || decide (x.1.2.2.1 = y.1.2.2.1))))
def fhd : FT → Option (tI × FT)
  | .leaf => none
  | .inner _ i _ c _ => some (i, c)
def ftl : FT → FT
  | .leaf => .leaf
  | .inner _ _ _ _ n => n
/-- the partners of a forest's nodes: by their keys, or by their places -/
def lk2 (ob : Bool) (s : List Int) (G D : FT) : Option (tI × FT) := bif ob then fget s G else fhd D
def sameF (ob : Bool) : FT → FT → FT → Bool
  | .leaf, _, _ => true
  | .inner _ i _ c n, G, D => match lk2 ob i.2.2.2 G D with
    | none => false
    | some y => hdS (i, c) y && (sameF (decide (i.1 = 6)) c y.2 y.2 && sameF ob n G (ftl D))
def pS (p : pT) : Bool := hdS p.1 p.2 && sameF (decide (p.1.1.1 = 6)) p.1.2 p.2.2 p.2.2
def prs (ob : Bool) : FT → FT → FT → Option (List pT)
  | .leaf, _, _ => some []
  | .inner _ i _ c n, G, D => match lk2 ob i.2.2.2 G D with
    | none => none
    | some y => match prs ob n G (ftl D) with
      | none => none
      | some l => some (((i, c), y) :: l)
theorem sameF_prs (ob : Bool) : ∀ (F G D : FT), sameF ob F G D = match prs ob F G D with | none => (sameF ob F G D) | some l => l.all pS
  | .leaf, _, _ => rfl
  | .inner s0 i u0 c n, G, D => by
    cases hp : prs ob (.inner s0 i u0 c n) G D with
    | none => rfl
    | some l =>
      dsimp only
      unfold prs at hp
      unfold sameF
      cases hy : lk2 ob i.2.2.2 G D with
      | none => rw [hy] at hp; cases hp
      | some y =>
        rw [hy] at hp
        dsimp only at hp ⊢
        cases hl : prs ob n G (ftl D) with
        | none => rw [hl] at hp; cases hp
        | some l2 =>
          rw [hl] at hp
          cases hp
          have ih := sameF_prs ob n G (ftl D)
          rw [hl] at ih
          dsimp only at ih
          rw [ih, List.all_cons]
          show _ = ((hdS (i, c) y && sameF (decide (i.1 = 6)) c y.2 y.2) && l2.all pS)
          rw [Bool.and_assoc]
theorem prs_none (ob : Bool) : ∀ (F G D : FT), prs ob F G D = none → sameF ob F G D = false
  | .leaf, _, _, h => by cases h
  | .inner s0 i u0 c n, G, D, h => by
    unfold prs at h
    unfold sameF
    cases hy : lk2 ob i.2.2.2 G D with
    | none => rfl
    | some y =>
      rw [hy] at h
      dsimp only at h ⊢
      cases hl : prs ob n G (ftl D) with
      | some l2 => rw [hl] at h; cases h
      | none => rw [prs_none ob n G (ftl D) hl, Bool.and_false, Bool.and_false]
theorem prs_ct (ob : Bool) : ∀ (F G D : FT) (l : List pT), prs ob F G D = some l → l.length = fsz F ∧ (l.map fun p => fct p.1.2).sum + fsz F = fct F
  | .leaf, _, _, l, h => by
    cases h
    exact ⟨rfl, rfl⟩
  | .inner s0 i u0 c n, G, D, l, h => by
    unfold prs at h
    cases hy : lk2 ob i.2.2.2 G D with
    | none => rw [hy] at h; cases h
    | some y =>
      rw [hy] at h
      dsimp only at h
      cases hl : prs ob n G (ftl D) with
      | none => rw [hl] at h; cases h
      | some l2 =>
        rw [hl] at h
        cases h
        obtain ⟨k1, k2⟩ := prs_ct ob n G (ftl D) l2 hl
        refine ⟨by show l2.length + 1 = fsz n + 1; rw [k1], ?_⟩
        rw [List.map_cons, List.sum_cons]
        show fct c + (l2.map fun p => fct p.1.2).sum + (fsz n + 1) = 1 + fct c + fct n
        omega
/-- the rows of both sides hold, from k on, these pairs -/
def qS (σ : mS) (A B : Int → Prop) (τ : mS) : Int → List pT → Prop
  | _, [] => True
  | k, p :: l => (mV σ A B (τ 43 k) p.1.1 p.1.2 ∧ mV σ A B (τ 44 k) p.2.1 p.2.2) ∧ qS σ A B τ (k + 1) l
theorem qS_app {σ τ : mS} {A B : Int → Prop} : ∀ (l l' : List pT) (k : Int), qS σ A B τ k l → qS σ A B τ (k + l.length) l' → qS σ A B τ k (l ++ l')
  | [], l', k, _, h => by
    rw [show k + (([] : List pT).length : Int) = k by simp] at h
    exact h
  | p :: l, l', k, h, h' => ⟨h.1, qS_app l l' (k + 1) h.2 (by rw [show k + 1 + (l.length : Int) = k + ((p :: l).length : Int) by simp; omega]; exact h')⟩
theorem qS_upd {σ τ τ' : mS} {A B : Int → Prop} : ∀ (l : List pT) (k : Int), (∀ j, k ≤ j → j < k + l.length → τ' 43 j = τ 43 j ∧ τ' 44 j = τ 44 j) → qS σ A B τ k l → qS σ A B τ' k l
  | [], _, _, _ => trivial
  | p :: l, k, hu, h => by
    obtain ⟨h1, h2⟩ := hu k (Int.le_refl k) (by simp; omega)
    exact ⟨by rw [h1, h2]; exact h.1, qS_upd l (k + 1) (fun j j1 j2 => hu j (by omega) (by simp; omega)) h.2⟩
theorem jn_sm_in {β : Bool} {d : Nat} {h : jx_H} {σ : mS} (hl : 49 ≤ h.length) {A B : Int → Prop} (hA : mIx A) (hB : mIx B) {a b k x y kd : Int} {jy : tI} {G : FT} (hk : 0 ≤ k) (hx : 0 ≤ x ∧ x < 1740) (x3 : σ 3 x = kd) (hkd : 0 ≤ kd ∧ kd ≤ 6) (hjy : jy.1 = kd) (hoG : fok G) (hVy : mV σ A B y jy G) : ∀ (F : FT) (cx dd m : Int) (D : FT) (τ : mS) (l : List pT) (c9 : Option Value), fok F → mEq [43, 44] σ τ → mF σ A B F cx → mF σ A B D dd → fsz F ≤ fsz D → qS σ A B τ (k + 1) l → m = k + 1 + l.length → m + fsz F ≤ 400 →
    (prs (decide (kd = 6)) F G D = none → ∃ τ', jx_r (jz β) jw_M (d + 1) 272 (154, [some (.ref 15), some (.int (Int32.ofInt (a))), some (.int (Int32.ofInt (b))), some (.int (Int32.ofInt (m))), some (.int (Int32.ofInt (k))), some (.int (Int32.ofInt (x))), some (.int (Int32.ofInt (y))), some (.int (Int32.ofInt (dd))), some (.int (Int32.ofInt (cx))), c9], [], ml_mk h τ) (ml_mk h (τ'), .inl (some (.int (Int32.ofInt (0))))) ∧ mEq [43, 44] σ τ') ∧ (∀ lp, prs (decide (kd = 6)) F G D = some lp → ∃ (τ' : mS) (dd' : Int) (c9' : Option Value), (∀ res, jx_r (jz β) jw_M (d + 1) 272 (250, [some (.ref 15), some (.int (Int32.ofInt (a))), some (.int (Int32.ofInt (b))), some (.int (Int32.ofInt (m + (fsz F : Int)))), some (.int (Int32.ofInt (k))), some (.int (Int32.ofInt (x))), some (.int (Int32.ofInt (y))), some (.int (Int32.ofInt (dd'))), some (.int (Int32.ofInt (-1))), c9'], [], ml_mk h τ') res → jx_r (jz β) jw_M (d + 1) 272 (154, [some (.ref 15), some (.int (Int32.ofInt (a))), some (.int (Int32.ofInt (b))), some (.int (Int32.ofInt (m))), some (.int (Int32.ofInt (k))), some (.int (Int32.ofInt (x))), some (.int (Int32.ofInt (y))), some (.int (Int32.ofInt (dd))), some (.int (Int32.ofInt (cx))), c9], [], ml_mk h τ) res) ∧ mEq [43, 44] σ τ' ∧ qS σ A B τ' (k + 1) (l ++ lp))
  | .leaf, cx, dd, m, D, τ, l, c9, _, hq, hc, _, _, hl', hm, hs => by
    have hc : cx = -1 := hc
    subst hc
    refine ⟨fun h => (by cases h), fun lp h => ?_⟩
    obtain rfl : [] = lp := by cases h; rfl
    refine ⟨τ, dd, c9, fun res kk => ?_, hq, by rw [List.append_nil]; exact hl'⟩
    rw [show m + ((fsz .leaf : Nat) : Int) = m from Int.add_zero m] at kk
    refine jr_1 jm_272 (show jw_cd cd_272 154 = some (.iload 8) by decide +kernel) rfl ?_
    refine jr_1 jm_272 (show jw_cd cd_272 156 = some (.iconst (-1)) by decide +kernel) rfl ?_
    refine jr_1 jm_272 (show jw_cd cd_272 157 = some (.if_icmp .eq 93) by decide +kernel) (mb_t (q := .eq) (a := -1) (b := -1) (t := 250) (by show -1 = -1; omega) ⟨by omega, by omega⟩ ⟨by omega, by omega⟩ (by decide) (by decide)) ?_
    exact kk
  | .inner s0 i u0 c n, cx, dd, m, D, τ, l, c9, ho, hq, hc, hD, hsz, hl', hm, hs => by
    obtain ⟨b1, a1, hkey, hN, hcF, hn⟩ := hc
    obtain ⟨t1, t2, -, -, o1, o2⟩ := ho
    have bx := hB cx b1
    have av := hA _ a1
    obtain ⟨x0, x1⟩ := id hx
    have hsz : fsz n + 1 ≤ fsz D := hsz
    have hs : m + ((fsz n + 1 : Nat) : Int) ≤ 400 := hs
    have es : m + ((fsz (.inner s0 i u0 c n) : Nat) : Int) = m + 1 + (fsz n : Int) := by show m + ((fsz n + 1 : Nat) : Int) = _; omega
    cases D with
    | leaf => exact absurd hsz (by show ¬ fsz n + 1 ≤ 0; omega)
    | inner s1 j1 u1 c1 n1 =>
    obtain ⟨db1, da1, dkey, dN, dcF, dn1⟩ := hD
    have dbx := hB dd db1
    have dav := hA _ da1
    have hsz : fsz n + 1 ≤ fsz n1 + 1 := hsz
    have hfr : ∀ {w : Int} {i : tI} {c : FT}, mV σ A B w i c → mV τ A B w i c := fun h => mV_fr (fun f v f1 f2 _ => by rw [hq f (by simp; omega)]) (fun f x f1 f2 _ => by rw [hq f (by simp; omega)]) (fun _ h => h) (fun _ h => h) h
    have hfr2 : ∀ {w : Int} {i : tI} {c : FT}, mV τ A B w i c → mV σ A B w i c := fun h => mV_fr (fun f v f1 f2 _ => by rw [hq f (by simp; omega)]) (fun f x f1 f2 _ => by rw [hq f (by simp; omega)]) (fun _ h => h) (fun _ h => h) h
    have x3 : τ 3 x = kd := (congrFun (hq 3 (by decide)) x).trans x3
    have hkey2 : τ 9 cx = pk i.2.2.2 := (congrFun (hq 9 (by decide)) cx).trans hkey
    have p8 : τ 8 cx = σ 8 cx := congrFun (hq 8 (by decide)) cx
    have p10 : (su (su τ 43 (m) (σ 8 cx)) 44 (m) ((0 : Int))) 10 cx = σ 10 cx ∨ True := Or.inr trivial
    have p10 : τ 10 cx = σ 10 cx := congrFun (hq 10 (by decide)) cx
    have pd10 : τ 10 dd = σ 10 dd := congrFun (hq 10 (by decide)) dd
    have step : ∀ (z : Int) (y2 : tI × FT), lk2 (decide (kd = 6)) i.2.2.2 G (.inner s1 j1 u1 c1 n1) = some y2 → mV σ A B z y2.1 y2.2 → (∀ res, jx_r (jz β) jw_M (d + 1) 272 (154, [some (.ref 15), some (.int (Int32.ofInt (a))), some (.int (Int32.ofInt (b))), some (.int (Int32.ofInt (m + 1))), some (.int (Int32.ofInt (k))), some (.int (Int32.ofInt (x))), some (.int (Int32.ofInt (y))), some (.int (Int32.ofInt (σ 10 dd))), some (.int (Int32.ofInt (σ 10 cx))), some (.int (Int32.ofInt (z)))], [], ml_mk h (su (su τ 43 (m) (σ 8 cx)) 44 (m) (z))) res → jx_r (jz β) jw_M (d + 1) 272 (154, [some (.ref 15), some (.int (Int32.ofInt (a))), some (.int (Int32.ofInt (b))), some (.int (Int32.ofInt (m))), some (.int (Int32.ofInt (k))), some (.int (Int32.ofInt (x))), some (.int (Int32.ofInt (y))), some (.int (Int32.ofInt (dd))), some (.int (Int32.ofInt (cx))), c9], [], ml_mk h τ) res) →
        (prs (decide (kd = 6)) (.inner s0 i u0 c n) G (.inner s1 j1 u1 c1 n1) = none → ∃ τ', jx_r (jz β) jw_M (d + 1) 272 (154, [some (.ref 15), some (.int (Int32.ofInt (a))), some (.int (Int32.ofInt (b))), some (.int (Int32.ofInt (m))), some (.int (Int32.ofInt (k))), some (.int (Int32.ofInt (x))), some (.int (Int32.ofInt (y))), some (.int (Int32.ofInt (dd))), some (.int (Int32.ofInt (cx))), c9], [], ml_mk h τ) (ml_mk h (τ'), .inl (some (.int (Int32.ofInt (0))))) ∧ mEq [43, 44] σ τ') ∧ (∀ lp, prs (decide (kd = 6)) (.inner s0 i u0 c n) G (.inner s1 j1 u1 c1 n1) = some lp → ∃ (τ' : mS) (dd' : Int) (c9' : Option Value), (∀ res, jx_r (jz β) jw_M (d + 1) 272 (250, [some (.ref 15), some (.int (Int32.ofInt (a))), some (.int (Int32.ofInt (b))), some (.int (Int32.ofInt (m + (fsz (.inner s0 i u0 c n) : Int)))), some (.int (Int32.ofInt (k))), some (.int (Int32.ofInt (x))), some (.int (Int32.ofInt (y))), some (.int (Int32.ofInt (dd'))), some (.int (Int32.ofInt (-1))), c9'], [], ml_mk h τ') res → jx_r (jz β) jw_M (d + 1) 272 (154, [some (.ref 15), some (.int (Int32.ofInt (a))), some (.int (Int32.ofInt (b))), some (.int (Int32.ofInt (m))), some (.int (Int32.ofInt (k))), some (.int (Int32.ofInt (x))), some (.int (Int32.ofInt (y))), some (.int (Int32.ofInt (dd))), some (.int (Int32.ofInt (cx))), c9], [], ml_mk h τ) res) ∧ mEq [43, 44] σ τ' ∧ qS σ A B τ' (k + 1) (l ++ lp)) := by
      intro z y2 hy hz hto
      have u43 : ∀ t, (su (su τ 43 (m) (σ 8 cx)) 44 (m) (z)) 43 t = if t = m then σ 8 cx else τ 43 t := fun t => by
        rw [su_nf (by decide)]
        by_cases ht : t = m
        · rw [if_pos ht, ht, su_eq]
        · rw [if_neg ht, su_ni ht]
      have u44 : ∀ t, (su (su τ 43 (m) (σ 8 cx)) 44 (m) (z)) 44 t = if t = m then z else τ 44 t := fun t => by
        by_cases ht : t = m
        · rw [if_pos ht, ht, su_eq]
        · rw [if_neg ht, su_ni ht, su_nf (by decide)]
      obtain ⟨v1, v2⟩ := jn_sm_in (β := β) (d := d) (a := a) (b := b) hl hA hB hk hx ‹σ 3 x = kd› hkd hjy hoG hVy n (σ 10 cx) (σ 10 dd) (m + 1) n1 (su (su τ 43 (m) (σ 8 cx)) 44 (m) (z)) (l ++ [((i, c), y2)]) (some (.int (Int32.ofInt z))) o2 (mEq_su (mEq_su hq (by decide)) (by decide)) hn dn1 (by omega) (by
        refine qS_app l _ (k + 1) (qS_upd l (k + 1) (fun j j1 j2 => by rw [u43, u44, if_neg (by omega), if_neg (by omega)]; exact ⟨rfl, rfl⟩) hl') ?_
        rw [← hm]
        refine ⟨⟨?_, ?_⟩, trivial⟩
        · rw [u43, if_pos rfl]
          exact ⟨a1, hN, hcF⟩
        · rw [u44, if_pos rfl]
          exact hz) (by simp; omega) (by omega)
      have e : prs (decide (kd = 6)) (.inner s0 i u0 c n) G (.inner s1 j1 u1 c1 n1) = match prs (decide (kd = 6)) n G n1 with | none => none | some l => some (((i, c), y2) :: l) := by
        show (match lk2 (decide (kd = 6)) i.2.2.2 G (.inner s1 j1 u1 c1 n1) with | none => none | some y => match prs (decide (kd = 6)) n G n1 with | none => none | some l => some (((i, c), y) :: l)) = _
        rw [hy]
      rw [e]
      cases hp : prs (decide (kd = 6)) n G n1 with
      | none =>
        refine ⟨fun _ => ?_, fun lp h => (by cases h)⟩
        obtain ⟨τ', w1, w2⟩ := v1 hp
        exact ⟨τ', hto _ w1, w2⟩
      | some l2 =>
        refine ⟨fun h => (by cases h), fun lp h => ?_⟩
        obtain rfl : ((i, c), y2) :: l2 = lp := by cases h; rfl
        obtain ⟨τ', dd', c9', w1, w2, w3⟩ := v2 l2 hp
        refine ⟨τ', dd', c9', fun res kk => hto _ (w1 _ (by rw [es] at kk; exact kk)), w2, ?_⟩
        rw [List.append_assoc] at w3
        exact w3
    by_cases hob : kd = 6
    · obtain ⟨z, r1, r2⟩ := jn_child (β := β) (d := d) (σ := τ) hl hA hB t2 (by rw [hjy]; exact ⟨by omega, by omega⟩) hoG (hfr hVy)
      have hvg : vget i.2.2.2 jy G = fget i.2.2.2 G := if_pos (hjy.trans hob)
      rw [hvg] at r2
      have hlk : lk2 (decide (kd = 6)) i.2.2.2 G (.inner s1 j1 u1 c1 n1) = fget i.2.2.2 G := by rw [decide_eq_true hob]; rfl
      cases hg : fget i.2.2.2 G with
      | none =>
        rw [hg] at r2 hlk
        obtain rfl : z = -1 := r2
        have e : prs (decide (kd = 6)) (.inner s0 i u0 c n) G (.inner s1 j1 u1 c1 n1) = none := by
          show (match lk2 (decide (kd = 6)) i.2.2.2 G (.inner s1 j1 u1 c1 n1) with | none => none | some y => match prs (decide (kd = 6)) n G n1 with | none => none | some l => some (((i, c), y) :: l)) = _
          rw [hlk]
        rw [e]
        refine ⟨fun _ => ⟨τ, ?_, hq⟩, fun lp h => (by cases h)⟩
        refine jr_1 jm_272 (show jw_cd cd_272 154 = some (.iload 8) by decide +kernel) rfl ?_
        refine jr_1 jm_272 (show jw_cd cd_272 156 = some (.iconst (-1)) by decide +kernel) rfl ?_
        refine jr_1 jm_272 (show jw_cd cd_272 157 = some (.if_icmp .eq 93) by decide +kernel) (mb_f (q := .eq) (a := cx) (b := -1) (by show ¬ (cx = -1); omega) ⟨by omega, by omega⟩ ⟨by omega, by omega⟩ (by decide)) ?_
        refine jr_1 jm_272 (show jw_cd cd_272 160 = some (.aload_n 0) by decide +kernel) rfl ?_
        refine jr_1 jm_272 (show jw_cd cd_272 161 = some (.getfield 13) by decide +kernel) (mg_a hl (a := 17) (show jw_fld 34 13 16 = some 3 by decide +kernel) (by decide) (by decide)) ?_
        refine jr_1 jm_272 (show jw_cd cd_272 164 = some (.iload 5) by decide +kernel) rfl ?_
        refine jr_1 jm_272 (show jw_cd cd_272 166 = some (.iaload) by decide +kernel) (ma_i hl (i := x) (e := kd) 3 (by omega) (by show _ < ((1740 : Nat) : Int); omega) x3 (by decide) (by decide) (by decide)) ?_
        refine jr_1 jm_272 (show jw_cd cd_272 167 = some (.bipush 6) by decide +kernel) (mt_bi (by decide)) ?_
        refine jr_1 jm_272 (show jw_cd cd_272 169 = some (.if_icmp .ne 19) by decide +kernel) (mb_f (q := .ne) (a := kd) (b := 6) (fun z => z hob) ⟨by omega, by omega⟩ ⟨by omega, by omega⟩ (by decide)) ?_
        refine jr_1 jm_272 (show jw_cd cd_272 172 = some (.aload_n 0) by decide +kernel) rfl ?_
        refine jr_1 jm_272 (show jw_cd cd_272 173 = some (.iload 6) by decide +kernel) rfl ?_
        refine jr_1 jm_272 (show jw_cd cd_272 175 = some (.aload_n 0) by decide +kernel) rfl ?_
        refine jr_1 jm_272 (show jw_cd cd_272 176 = some (.getfield 32) by decide +kernel) (mg_a hl (a := 23) (show jw_fld 34 32 16 = some 9 by decide +kernel) (by decide) (by decide)) ?_
        refine jr_1 jm_272 (show jw_cd cd_272 179 = some (.iload 8) by decide +kernel) rfl ?_
        refine jr_1 jm_272 (show jw_cd cd_272 181 = some (.laload) by decide +kernel) (ma_j hl (i := cx) (e := pk i.2.2.2) 9 (by omega) (by show _ < ((1740 : Nat) : Int); omega) hkey2 (by decide) (by decide) (by decide)) ?_
        refine jr_c jm_272 (show jw_cd cd_272 182 = some (.invokevirtual 132) by decide +kernel) (mc_v hl (n := 2) (m2 := 256) (bs := [.int (Int32.ofInt (y)), .long (Int64.ofInt (pk i.2.2.2))]) (r := []) (show jw_find jw_cvT 34 132 = some (2, [(16, 256)]) by decide +kernel) (by decide) rfl rfl rfl) jm_256 ⟨Nat.le_of_ble_eq_true rfl, by decide⟩ r1 ?_
        refine jr_1 jm_272 (show jw_cd cd_272 185 = some (.goto 10) by decide +kernel) (ju_go (t := 195) (by decide)) ?_
        refine jr_1 jm_272 (F2 := (197, [some (.ref 15), some (.int (Int32.ofInt (a))), some (.int (Int32.ofInt (b))), some (.int (Int32.ofInt (m))), some (.int (Int32.ofInt (k))), some (.int (Int32.ofInt (x))), some (.int (Int32.ofInt (y))), some (.int (Int32.ofInt (dd))), some (.int (Int32.ofInt (cx))), some (.int (Int32.ofInt (-1)))], [], ml_mk h τ)) (show jw_cd cd_272 195 = some (.istore 9) by decide +kernel) rfl ?_
        refine jr_1 jm_272 (show jw_cd cd_272 197 = some (.iload 9) by decide +kernel) rfl ?_
        refine jr_1 jm_272 (show jw_cd cd_272 199 = some (.iconst (-1)) by decide +kernel) rfl ?_
        refine jr_1 jm_272 (show jw_cd cd_272 200 = some (.if_icmp .ne 5) by decide +kernel) (mb_f (q := .ne) (a := -1) (b := -1) (by show ¬ (¬ (-1 = -1)); omega) ⟨by omega, by omega⟩ ⟨by omega, by omega⟩ (by decide)) ?_
        refine jr_1 jm_272 (show jw_cd cd_272 203 = some (.iconst 0) by decide +kernel) rfl ?_
        exact jr_v jm_272 (show jw_cd cd_272 204 = some (.ireturn) by decide +kernel) rfl
      | some y2 =>
        obtain ⟨j2, e2⟩ := y2
        rw [hg] at r2 hlk
        have hz : mV σ A B z j2 e2 := hfr2 r2
        have hzz := hA _ hz.1
        refine step z (j2, e2) hlk hz (fun res kk => ?_)
        refine jr_1 jm_272 (show jw_cd cd_272 154 = some (.iload 8) by decide +kernel) rfl ?_
        refine jr_1 jm_272 (show jw_cd cd_272 156 = some (.iconst (-1)) by decide +kernel) rfl ?_
        refine jr_1 jm_272 (show jw_cd cd_272 157 = some (.if_icmp .eq 93) by decide +kernel) (mb_f (q := .eq) (a := cx) (b := -1) (by show ¬ (cx = -1); omega) ⟨by omega, by omega⟩ ⟨by omega, by omega⟩ (by decide)) ?_
        refine jr_1 jm_272 (show jw_cd cd_272 160 = some (.aload_n 0) by decide +kernel) rfl ?_
        refine jr_1 jm_272 (show jw_cd cd_272 161 = some (.getfield 13) by decide +kernel) (mg_a hl (a := 17) (show jw_fld 34 13 16 = some 3 by decide +kernel) (by decide) (by decide)) ?_
        refine jr_1 jm_272 (show jw_cd cd_272 164 = some (.iload 5) by decide +kernel) rfl ?_
        refine jr_1 jm_272 (show jw_cd cd_272 166 = some (.iaload) by decide +kernel) (ma_i hl (i := x) (e := kd) 3 (by omega) (by show _ < ((1740 : Nat) : Int); omega) x3 (by decide) (by decide) (by decide)) ?_
        refine jr_1 jm_272 (show jw_cd cd_272 167 = some (.bipush 6) by decide +kernel) (mt_bi (by decide)) ?_
        refine jr_1 jm_272 (show jw_cd cd_272 169 = some (.if_icmp .ne 19) by decide +kernel) (mb_f (q := .ne) (a := kd) (b := 6) (fun z => z hob) ⟨by omega, by omega⟩ ⟨by omega, by omega⟩ (by decide)) ?_
        refine jr_1 jm_272 (show jw_cd cd_272 172 = some (.aload_n 0) by decide +kernel) rfl ?_
        refine jr_1 jm_272 (show jw_cd cd_272 173 = some (.iload 6) by decide +kernel) rfl ?_
        refine jr_1 jm_272 (show jw_cd cd_272 175 = some (.aload_n 0) by decide +kernel) rfl ?_
        refine jr_1 jm_272 (show jw_cd cd_272 176 = some (.getfield 32) by decide +kernel) (mg_a hl (a := 23) (show jw_fld 34 32 16 = some 9 by decide +kernel) (by decide) (by decide)) ?_
        refine jr_1 jm_272 (show jw_cd cd_272 179 = some (.iload 8) by decide +kernel) rfl ?_
        refine jr_1 jm_272 (show jw_cd cd_272 181 = some (.laload) by decide +kernel) (ma_j hl (i := cx) (e := pk i.2.2.2) 9 (by omega) (by show _ < ((1740 : Nat) : Int); omega) hkey2 (by decide) (by decide) (by decide)) ?_
        refine jr_c jm_272 (show jw_cd cd_272 182 = some (.invokevirtual 132) by decide +kernel) (mc_v hl (n := 2) (m2 := 256) (bs := [.int (Int32.ofInt (y)), .long (Int64.ofInt (pk i.2.2.2))]) (r := []) (show jw_find jw_cvT 34 132 = some (2, [(16, 256)]) by decide +kernel) (by decide) rfl rfl rfl) jm_256 ⟨Nat.le_of_ble_eq_true rfl, by decide⟩ r1 ?_
        refine jr_1 jm_272 (show jw_cd cd_272 185 = some (.goto 10) by decide +kernel) (ju_go (t := 195) (by decide)) ?_
        refine jr_1 jm_272 (F2 := (197, [some (.ref 15), some (.int (Int32.ofInt (a))), some (.int (Int32.ofInt (b))), some (.int (Int32.ofInt (m))), some (.int (Int32.ofInt (k))), some (.int (Int32.ofInt (x))), some (.int (Int32.ofInt (y))), some (.int (Int32.ofInt (dd))), some (.int (Int32.ofInt (cx))), some (.int (Int32.ofInt (z)))], [], ml_mk h τ)) (show jw_cd cd_272 195 = some (.istore 9) by decide +kernel) rfl ?_
        refine jr_1 jm_272 (show jw_cd cd_272 197 = some (.iload 9) by decide +kernel) rfl ?_
        refine jr_1 jm_272 (show jw_cd cd_272 199 = some (.iconst (-1)) by decide +kernel) rfl ?_
        refine jr_1 jm_272 (show jw_cd cd_272 200 = some (.if_icmp .ne 5) by decide +kernel) (mb_t (q := .ne) (a := z) (b := -1) (t := 205) (by show ¬ (z = -1); omega) ⟨by omega, by omega⟩ ⟨by omega, by omega⟩ (by decide) (by decide)) ?_
        refine jr_1 jm_272 (show jw_cd cd_272 205 = some (.aload_n 0) by decide +kernel) rfl ?_
        refine jr_1 jm_272 (show jw_cd cd_272 206 = some (.getfield 101) by decide +kernel) (mg_a hl (a := 46) (show jw_fld 34 101 16 = some 43 by decide +kernel) (by decide) (by decide)) ?_
        refine jr_1 jm_272 (show jw_cd cd_272 209 = some (.iload_n 3) by decide +kernel) rfl ?_
        refine jr_1 jm_272 (show jw_cd cd_272 210 = some (.aload_n 0) by decide +kernel) rfl ?_
        refine jr_1 jm_272 (show jw_cd cd_272 211 = some (.getfield 29) by decide +kernel) (mg_a hl (a := 22) (show jw_fld 34 29 16 = some 8 by decide +kernel) (by decide) (by decide)) ?_
        refine jr_1 jm_272 (show jw_cd cd_272 214 = some (.iload 8) by decide +kernel) rfl ?_
        refine jr_1 jm_272 (show jw_cd cd_272 216 = some (.iaload) by decide +kernel) (ma_i hl (i := cx) (e := σ 8 cx) 8 (by omega) (by show _ < ((1740 : Nat) : Int); omega) p8 (by decide) (by decide) (by decide)) ?_
        refine jr_1 jm_272 (show jw_cd cd_272 217 = some (.iastore) by decide +kernel) (ms_i hl (i := m) (x := σ 8 cx) 43 (by omega) (by show _ < ((400 : Nat) : Int); omega) (by decide) (by decide) (by decide)) ?_
        refine jr_1 jm_272 (show jw_cd cd_272 218 = some (.aload_n 0) by decide +kernel) rfl ?_
        refine jr_1 jm_272 (show jw_cd cd_272 219 = some (.getfield 104) by decide +kernel) (mg_a hl (a := 47) (show jw_fld 34 104 16 = some 44 by decide +kernel) (by decide) (by decide)) ?_
        refine jr_1 jm_272 (show jw_cd cd_272 222 = some (.iload_n 3) by decide +kernel) rfl ?_
        refine jr_1 jm_272 (show jw_cd cd_272 223 = some (.iload 9) by decide +kernel) rfl ?_
        refine jr_1 jm_272 (show jw_cd cd_272 225 = some (.iastore) by decide +kernel) (ms_i hl (i := m) (x := z) 44 (by omega) (by show _ < ((400 : Nat) : Int); omega) (by decide) (by decide) (by decide)) ?_
        refine jr_1 jm_272 (F2 := (229, [some (.ref 15), some (.int (Int32.ofInt (a))), some (.int (Int32.ofInt (b))), some (.int (Int32.ofInt (m + 1))), some (.int (Int32.ofInt (k))), some (.int (Int32.ofInt (x))), some (.int (Int32.ofInt (y))), some (.int (Int32.ofInt (dd))), some (.int (Int32.ofInt (cx))), some (.int (Int32.ofInt (z)))], [], ml_mk h (su (su τ 43 (m) (σ 8 cx)) 44 (m) (z)))) (show jw_cd cd_272 226 = some (.iinc 3 1) by decide +kernel) (mt_inc (a := m) (c := m + 1) rfl (by omega) rfl) ?_
        refine jr_1 jm_272 (show jw_cd cd_272 229 = some (.aload_n 0) by decide +kernel) rfl ?_
        refine jr_1 jm_272 (show jw_cd cd_272 230 = some (.getfield 35) by decide +kernel) (mg_a hl (a := 24) (show jw_fld 34 35 16 = some 10 by decide +kernel) (by decide) (by decide)) ?_
        refine jr_1 jm_272 (show jw_cd cd_272 233 = some (.iload 7) by decide +kernel) rfl ?_
        refine jr_1 jm_272 (show jw_cd cd_272 235 = some (.iaload) by decide +kernel) (ma_i hl (i := dd) (e := σ 10 dd) 10 (by omega) (by show _ < ((1740 : Nat) : Int); omega) ((su_nf (by decide)).trans ((su_nf (by decide)).trans pd10)) (by decide) (by decide) (by decide)) ?_
        refine jr_1 jm_272 (F2 := (238, [some (.ref 15), some (.int (Int32.ofInt (a))), some (.int (Int32.ofInt (b))), some (.int (Int32.ofInt (m + 1))), some (.int (Int32.ofInt (k))), some (.int (Int32.ofInt (x))), some (.int (Int32.ofInt (y))), some (.int (Int32.ofInt (σ 10 dd))), some (.int (Int32.ofInt (cx))), some (.int (Int32.ofInt (z)))], [], ml_mk h (su (su τ 43 (m) (σ 8 cx)) 44 (m) (z)))) (show jw_cd cd_272 236 = some (.istore 7) by decide +kernel) rfl ?_
        refine jr_1 jm_272 (show jw_cd cd_272 238 = some (.aload_n 0) by decide +kernel) rfl ?_
        refine jr_1 jm_272 (show jw_cd cd_272 239 = some (.getfield 35) by decide +kernel) (mg_a hl (a := 24) (show jw_fld 34 35 16 = some 10 by decide +kernel) (by decide) (by decide)) ?_
        refine jr_1 jm_272 (show jw_cd cd_272 242 = some (.iload 8) by decide +kernel) rfl ?_
        refine jr_1 jm_272 (show jw_cd cd_272 244 = some (.iaload) by decide +kernel) (ma_i hl (i := cx) (e := σ 10 cx) 10 (by omega) (by show _ < ((1740 : Nat) : Int); omega) ((su_nf (by decide)).trans ((su_nf (by decide)).trans p10)) (by decide) (by decide) (by decide)) ?_
        refine jr_1 jm_272 (F2 := (247, [some (.ref 15), some (.int (Int32.ofInt (a))), some (.int (Int32.ofInt (b))), some (.int (Int32.ofInt (m + 1))), some (.int (Int32.ofInt (k))), some (.int (Int32.ofInt (x))), some (.int (Int32.ofInt (y))), some (.int (Int32.ofInt (σ 10 dd))), some (.int (Int32.ofInt (σ 10 cx))), some (.int (Int32.ofInt (z)))], [], ml_mk h (su (su τ 43 (m) (σ 8 cx)) 44 (m) (z)))) (show jw_cd cd_272 245 = some (.istore 8) by decide +kernel) rfl ?_
        refine jr_1 jm_272 (show jw_cd cd_272 247 = some (.goto (-93)) by decide +kernel) (ju_go (t := 154) (by decide)) ?_
        exact kk
    · have hlk : lk2 (decide (kd = 6)) i.2.2.2 G (.inner s1 j1 u1 c1 n1) = some (j1, c1) := by rw [decide_eq_false hob]; rfl
      refine step (σ 8 dd) (j1, c1) hlk ⟨da1, dN, dcF⟩ (fun res kk => ?_)
      obtain ⟨z, hzd⟩ : ∃ z, z = σ 8 dd := ⟨_, rfl⟩
      rw [← hzd] at kk dav
      have pd8 : τ 8 dd = z := (congrFun (hq 8 (by decide)) dd).trans hzd.symm
      refine jr_1 jm_272 (show jw_cd cd_272 154 = some (.iload 8) by decide +kernel) rfl ?_
      refine jr_1 jm_272 (show jw_cd cd_272 156 = some (.iconst (-1)) by decide +kernel) rfl ?_
      refine jr_1 jm_272 (show jw_cd cd_272 157 = some (.if_icmp .eq 93) by decide +kernel) (mb_f (q := .eq) (a := cx) (b := -1) (by show ¬ (cx = -1); omega) ⟨by omega, by omega⟩ ⟨by omega, by omega⟩ (by decide)) ?_
      refine jr_1 jm_272 (show jw_cd cd_272 160 = some (.aload_n 0) by decide +kernel) rfl ?_
      refine jr_1 jm_272 (show jw_cd cd_272 161 = some (.getfield 13) by decide +kernel) (mg_a hl (a := 17) (show jw_fld 34 13 16 = some 3 by decide +kernel) (by decide) (by decide)) ?_
      refine jr_1 jm_272 (show jw_cd cd_272 164 = some (.iload 5) by decide +kernel) rfl ?_
      refine jr_1 jm_272 (show jw_cd cd_272 166 = some (.iaload) by decide +kernel) (ma_i hl (i := x) (e := kd) 3 (by omega) (by show _ < ((1740 : Nat) : Int); omega) x3 (by decide) (by decide) (by decide)) ?_
      refine jr_1 jm_272 (show jw_cd cd_272 167 = some (.bipush 6) by decide +kernel) (mt_bi (by decide)) ?_
      refine jr_1 jm_272 (show jw_cd cd_272 169 = some (.if_icmp .ne 19) by decide +kernel) (mb_t (q := .ne) (a := kd) (b := 6) (t := 188) hob ⟨by omega, by omega⟩ ⟨by omega, by omega⟩ (by decide) (by decide)) ?_
      refine jr_1 jm_272 (show jw_cd cd_272 188 = some (.aload_n 0) by decide +kernel) rfl ?_
      refine jr_1 jm_272 (show jw_cd cd_272 189 = some (.getfield 29) by decide +kernel) (mg_a hl (a := 22) (show jw_fld 34 29 16 = some 8 by decide +kernel) (by decide) (by decide)) ?_
      refine jr_1 jm_272 (show jw_cd cd_272 192 = some (.iload 7) by decide +kernel) rfl ?_
      refine jr_1 jm_272 (show jw_cd cd_272 194 = some (.iaload) by decide +kernel) (ma_i hl (i := dd) (e := z) 8 (by omega) (by show _ < ((1740 : Nat) : Int); omega) pd8 (by decide) (by decide) (by decide)) ?_
      refine jr_1 jm_272 (F2 := (197, [some (.ref 15), some (.int (Int32.ofInt (a))), some (.int (Int32.ofInt (b))), some (.int (Int32.ofInt (m))), some (.int (Int32.ofInt (k))), some (.int (Int32.ofInt (x))), some (.int (Int32.ofInt (y))), some (.int (Int32.ofInt (dd))), some (.int (Int32.ofInt (cx))), some (.int (Int32.ofInt (z)))], [], ml_mk h τ)) (show jw_cd cd_272 195 = some (.istore 9) by decide +kernel) rfl ?_
      refine jr_1 jm_272 (show jw_cd cd_272 197 = some (.iload 9) by decide +kernel) rfl ?_
      refine jr_1 jm_272 (show jw_cd cd_272 199 = some (.iconst (-1)) by decide +kernel) rfl ?_
      refine jr_1 jm_272 (show jw_cd cd_272 200 = some (.if_icmp .ne 5) by decide +kernel) (mb_t (q := .ne) (a := z) (b := -1) (t := 205) (by show ¬ (z = -1); omega) ⟨by omega, by omega⟩ ⟨by omega, by omega⟩ (by decide) (by decide)) ?_
      refine jr_1 jm_272 (show jw_cd cd_272 205 = some (.aload_n 0) by decide +kernel) rfl ?_
      refine jr_1 jm_272 (show jw_cd cd_272 206 = some (.getfield 101) by decide +kernel) (mg_a hl (a := 46) (show jw_fld 34 101 16 = some 43 by decide +kernel) (by decide) (by decide)) ?_
      refine jr_1 jm_272 (show jw_cd cd_272 209 = some (.iload_n 3) by decide +kernel) rfl ?_
      refine jr_1 jm_272 (show jw_cd cd_272 210 = some (.aload_n 0) by decide +kernel) rfl ?_
      refine jr_1 jm_272 (show jw_cd cd_272 211 = some (.getfield 29) by decide +kernel) (mg_a hl (a := 22) (show jw_fld 34 29 16 = some 8 by decide +kernel) (by decide) (by decide)) ?_
      refine jr_1 jm_272 (show jw_cd cd_272 214 = some (.iload 8) by decide +kernel) rfl ?_
      refine jr_1 jm_272 (show jw_cd cd_272 216 = some (.iaload) by decide +kernel) (ma_i hl (i := cx) (e := σ 8 cx) 8 (by omega) (by show _ < ((1740 : Nat) : Int); omega) p8 (by decide) (by decide) (by decide)) ?_
      refine jr_1 jm_272 (show jw_cd cd_272 217 = some (.iastore) by decide +kernel) (ms_i hl (i := m) (x := σ 8 cx) 43 (by omega) (by show _ < ((400 : Nat) : Int); omega) (by decide) (by decide) (by decide)) ?_
      refine jr_1 jm_272 (show jw_cd cd_272 218 = some (.aload_n 0) by decide +kernel) rfl ?_
      refine jr_1 jm_272 (show jw_cd cd_272 219 = some (.getfield 104) by decide +kernel) (mg_a hl (a := 47) (show jw_fld 34 104 16 = some 44 by decide +kernel) (by decide) (by decide)) ?_
      refine jr_1 jm_272 (show jw_cd cd_272 222 = some (.iload_n 3) by decide +kernel) rfl ?_
      refine jr_1 jm_272 (show jw_cd cd_272 223 = some (.iload 9) by decide +kernel) rfl ?_
      refine jr_1 jm_272 (show jw_cd cd_272 225 = some (.iastore) by decide +kernel) (ms_i hl (i := m) (x := z) 44 (by omega) (by show _ < ((400 : Nat) : Int); omega) (by decide) (by decide) (by decide)) ?_
      refine jr_1 jm_272 (F2 := (229, [some (.ref 15), some (.int (Int32.ofInt (a))), some (.int (Int32.ofInt (b))), some (.int (Int32.ofInt (m + 1))), some (.int (Int32.ofInt (k))), some (.int (Int32.ofInt (x))), some (.int (Int32.ofInt (y))), some (.int (Int32.ofInt (dd))), some (.int (Int32.ofInt (cx))), some (.int (Int32.ofInt (z)))], [], ml_mk h (su (su τ 43 (m) (σ 8 cx)) 44 (m) (z)))) (show jw_cd cd_272 226 = some (.iinc 3 1) by decide +kernel) (mt_inc (a := m) (c := m + 1) rfl (by omega) rfl) ?_
      refine jr_1 jm_272 (show jw_cd cd_272 229 = some (.aload_n 0) by decide +kernel) rfl ?_
      refine jr_1 jm_272 (show jw_cd cd_272 230 = some (.getfield 35) by decide +kernel) (mg_a hl (a := 24) (show jw_fld 34 35 16 = some 10 by decide +kernel) (by decide) (by decide)) ?_
      refine jr_1 jm_272 (show jw_cd cd_272 233 = some (.iload 7) by decide +kernel) rfl ?_
      refine jr_1 jm_272 (show jw_cd cd_272 235 = some (.iaload) by decide +kernel) (ma_i hl (i := dd) (e := σ 10 dd) 10 (by omega) (by show _ < ((1740 : Nat) : Int); omega) ((su_nf (by decide)).trans ((su_nf (by decide)).trans pd10)) (by decide) (by decide) (by decide)) ?_
      refine jr_1 jm_272 (F2 := (238, [some (.ref 15), some (.int (Int32.ofInt (a))), some (.int (Int32.ofInt (b))), some (.int (Int32.ofInt (m + 1))), some (.int (Int32.ofInt (k))), some (.int (Int32.ofInt (x))), some (.int (Int32.ofInt (y))), some (.int (Int32.ofInt (σ 10 dd))), some (.int (Int32.ofInt (cx))), some (.int (Int32.ofInt (z)))], [], ml_mk h (su (su τ 43 (m) (σ 8 cx)) 44 (m) (z)))) (show jw_cd cd_272 236 = some (.istore 7) by decide +kernel) rfl ?_
      refine jr_1 jm_272 (show jw_cd cd_272 238 = some (.aload_n 0) by decide +kernel) rfl ?_
      refine jr_1 jm_272 (show jw_cd cd_272 239 = some (.getfield 35) by decide +kernel) (mg_a hl (a := 24) (show jw_fld 34 35 16 = some 10 by decide +kernel) (by decide) (by decide)) ?_
      refine jr_1 jm_272 (show jw_cd cd_272 242 = some (.iload 8) by decide +kernel) rfl ?_
      refine jr_1 jm_272 (show jw_cd cd_272 244 = some (.iaload) by decide +kernel) (ma_i hl (i := cx) (e := σ 10 cx) 10 (by omega) (by show _ < ((1740 : Nat) : Int); omega) ((su_nf (by decide)).trans ((su_nf (by decide)).trans p10)) (by decide) (by decide) (by decide)) ?_
      refine jr_1 jm_272 (F2 := (247, [some (.ref 15), some (.int (Int32.ofInt (a))), some (.int (Int32.ofInt (b))), some (.int (Int32.ofInt (m + 1))), some (.int (Int32.ofInt (k))), some (.int (Int32.ofInt (x))), some (.int (Int32.ofInt (y))), some (.int (Int32.ofInt (σ 10 dd))), some (.int (Int32.ofInt (σ 10 cx))), some (.int (Int32.ofInt (z)))], [], ml_mk h (su (su τ 43 (m) (σ 8 cx)) 44 (m) (z)))) (show jw_cd cd_272 245 = some (.istore 8) by decide +kernel) rfl ?_
      refine jr_1 jm_272 (show jw_cd cd_272 247 = some (.goto (-93)) by decide +kernel) (ju_go (t := 154) (by decide)) ?_
      exact kk

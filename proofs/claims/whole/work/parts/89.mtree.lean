/-! ===== the model's trees (printed by program: gen18.py) ===== -/
/-- what a node says -/
def mN (σ : mS) (v : Int) (i : tI) (s : Nat) : Prop := σ 3 v = i.1 ∧ σ 4 v = i.2.1 ∧ σ 5 v = pk i.2.2.1 ∧ σ 7 v = s
/-- a row of cells from x on holds the forest: its nodes are among A, its cells among B -/
def mF (σ : mS) (A B : Int → Prop) : FT → Int → Prop
  | .leaf, x => x = -1
  | .inner _ i _ c n, x => B x ∧ A (σ 8 x) ∧ σ 9 x = pk i.2.2.2 ∧ mN σ (σ 8 x) i (fsz c) ∧ mF σ A B c (σ 6 (σ 8 x)) ∧ mF σ A B n (σ 10 x)
def mV (σ : mS) (A B : Int → Prop) (v : Int) (i : tI) (c : FT) : Prop := A v ∧ mN σ v i (fsz c) ∧ mF σ A B c (σ 6 v)
theorem mF_frame {σ τ : mS} {A B : Int → Prop} (hA : ∀ v, A v → τ 3 v = σ 3 v ∧ τ 4 v = σ 4 v ∧ τ 5 v = σ 5 v ∧ τ 6 v = σ 6 v ∧ τ 7 v = σ 7 v) (hB : ∀ x, B x → τ 8 x = σ 8 x ∧ τ 9 x = σ 9 x ∧ τ 10 x = σ 10 x) : ∀ (F : FT) (x : Int), mF σ A B F x → mF τ A B F x
  | .leaf, x, h => h
  | .inner _ i _ c n, x, h => by
    obtain ⟨h1, h2, h3, ⟨n1, n2, n3, n4⟩, h5, h6⟩ := h
    obtain ⟨b1, b2, b3⟩ := hB x h1
    obtain ⟨a1, a2, a3, a4, a5⟩ := hA _ h2
    refine ⟨h1, by rw [b1]; exact h2, by rw [b2]; exact h3, ?_, ?_, ?_⟩
    · rw [b1]
      exact ⟨a1.trans n1, a2.trans n2, a3.trans n3, a5.trans n4⟩
    · rw [b1, a4]
      exact mF_frame hA hB c _ h5
    · rw [b3]
      exact mF_frame hA hB n _ h6
theorem mF_mono {σ : mS} {A B A' B' : Int → Prop} (hA : ∀ v, A v → A' v) (hB : ∀ x, B x → B' x) : ∀ (F : FT) (x : Int), mF σ A B F x → mF σ A' B' F x
  | .leaf, x, h => h
  | .inner _ i _ c n, x, h => ⟨hB _ h.1, hA _ h.2.1, h.2.2.1, h.2.2.2.1, mF_mono hA hB c _ h.2.2.2.2.1, mF_mono hA hB n _ h.2.2.2.2.2⟩
/-- the forests below a forest's nodes -/
def kids : FT → List FT
  | .leaf => []
  | .inner _ _ _ c n => c :: kids n
def fctL (G : List FT) : Nat := (G.map fct).sum
theorem kids_len : ∀ F : FT, (kids F).length = fsz F
  | .leaf => rfl
  | .inner _ _ _ c n => by
    show (kids n).length + 1 = fsz n + 1
    rw [kids_len n]
theorem kids_ct : ∀ F : FT, fctL (kids F) + fsz F = fct F
  | .leaf => rfl
  | .inner _ _ _ c n => by
    have h := kids_ct n
    show fctL (c :: kids n) + (fsz n + 1) = 1 + fct c + fct n
    unfold fctL at h ⊢
    rw [List.map_cons, List.sum_cons]
    omega
theorem fctL_app (G G' : List FT) : fctL (G ++ G') = fctL G + fctL G' := by
  unfold fctL
  rw [List.map_append, List.sum_append]
/-- the row u, from k on, holds nodes below which these forests are -/
def qP (σ : mS) (A B : Int → Prop) (u : Int → Int) : Int → List FT → Prop
  | _, [] => True
  | k, F :: G => A (u k) ∧ mF σ A B F (σ 6 (u k)) ∧ qP σ A B u (k + 1) G
theorem qP_app {σ : mS} {A B : Int → Prop} {u : Int → Int} : ∀ (G : List FT) (k : Int) (G' : List FT), qP σ A B u k G → qP σ A B u (k + G.length) G' → qP σ A B u k (G ++ G')
  | [], k, G', _, h2 => by
    have e : k + (([] : List FT).length : Int) = k := by simp
    rw [e] at h2
    exact h2
  | F :: G, k, G', h1, h2 => by
    refine ⟨h1.1, h1.2.1, qP_app G (k + 1) G' h1.2.2 ?_⟩
    rw [show k + 1 + (G.length : Int) = k + ((F :: G).length : Int) by simp; omega]
    exact h2
theorem qP_upd {σ : mS} {A B : Int → Prop} {u u' : Int → Int} : ∀ (G : List FT) (k : Int), (∀ j, k ≤ j → j < k + G.length → u' j = u j) → qP σ A B u k G → qP σ A B u' k G
  | [], _, _, _ => trivial
  | F :: G, k, hu, h => by
    have e := hu k (Int.le_refl k) (by simp; omega)
    refine ⟨by rw [e]; exact h.1, by rw [e]; exact h.2.1, qP_upd G (k + 1) (fun j h1 h2 => hu j (by omega) (by simp; omega)) h.2.2⟩
def mIx (A : Int → Prop) : Prop := ∀ v, A v → 0 ≤ v ∧ v < 1740
theorem jn_so_in {β : Bool} {d : Nat} {h : jx_H} {σ : mS} (hl : 49 ≤ h.length) {A B : Int → Prop} (hA : mIx A) (hB : mIx B) {v k : Int} (hk : 0 ≤ k) (hk2 : k < 400) : ∀ (F : FT) (x many : Int) (τ : mS) (G : List FT), mEq [43] σ τ → mF σ A B F x → qP σ A B (τ 43) (k + 1) G → many = k + 1 + G.length → many + fsz F ≤ 400 →
    ∃ τ', (∀ res, jx_r (jz β) jw_M (d) 231 (63, [some (.ref 15), some (.int (Int32.ofInt (v))), some (.int (Int32.ofInt (many + (fsz F : Int)))), some (.int (Int32.ofInt (k))), some (.int (Int32.ofInt (-1)))], [], ml_mk h τ') res → jx_r (jz β) jw_M (d) 231 (29, [some (.ref 15), some (.int (Int32.ofInt (v))), some (.int (Int32.ofInt (many))), some (.int (Int32.ofInt (k))), some (.int (Int32.ofInt (x)))], [], ml_mk h τ) res) ∧ mEq [43] σ τ' ∧ qP σ A B (τ' 43) (k + 1) (G ++ kids F)
  | .leaf, x, many, τ, G, hq, hx, hG, hm, hs => by
    have hx : x = -1 := hx
    subst hx
    refine ⟨τ, fun res kk => ?_, hq, by rw [show kids .leaf = [] from rfl, List.append_nil]; exact hG⟩
    rw [show many + ((fsz .leaf : Nat) : Int) = many from Int.add_zero many] at kk
    refine jr_1 jm_231 (show jw_cd cd_231 29 = some (.iload 4) by decide +kernel) rfl ?_
    refine jr_1 jm_231 (show jw_cd cd_231 31 = some (.iconst (-1)) by decide +kernel) rfl ?_
    refine jr_1 jm_231 (show jw_cd cd_231 32 = some (.if_icmp .eq 31) by decide +kernel) (mb_t (q := .eq) (a := -1) (b := -1) (t := 63) (by show -1 = -1; omega) ⟨by omega, by omega⟩ ⟨by omega, by omega⟩ (by decide) (by decide)) ?_
    exact kk
  | .inner s0 i u0 c n, x, many, τ, G, hq, hx, hG, hm, hs => by
    obtain ⟨h1, h2, h3, h4, h5, h6⟩ := hx
    have hx := hB x h1
    have hv := hA _ h2
    have hs : many + ((fsz n + 1 : Nat) : Int) ≤ 400 := hs
    have e6 : τ 6 = σ 6 := hq 6 (by decide)
    have e8 : τ 8 = σ 8 := hq 8 (by decide)
    have e10 : τ 10 = σ 10 := hq 10 (by decide)
    obtain ⟨τ', r1, r2, r3⟩ := jn_so_in (β := β) (d := d) (v := v) hl hA hB hk hk2 n (σ 10 x) (many + 1) (su τ 43 (many) (σ 8 (x))) (G ++ [c]) (mEq_su hq (by decide)) h6 (by
      refine qP_app G (k + 1) [c] (qP_upd G (k + 1) (fun j j1 j2 => su_ni (by omega)) hG) ?_
      rw [← hm]
      refine ⟨?_, ?_, trivial⟩
      · rw [su_eq]
        exact h2
      · rw [su_eq]
        exact h5) (by simp; omega) (by omega)
    refine ⟨τ', fun res kk => ?_, r2, by rw [List.append_assoc] at r3; exact r3⟩
    refine jr_1 jm_231 (show jw_cd cd_231 29 = some (.iload 4) by decide +kernel) rfl ?_
    refine jr_1 jm_231 (show jw_cd cd_231 31 = some (.iconst (-1)) by decide +kernel) rfl ?_
    refine jr_1 jm_231 (show jw_cd cd_231 32 = some (.if_icmp .eq 31) by decide +kernel) (mb_f (q := .eq) (a := x) (b := -1) (by show ¬ (x = -1); omega) ⟨by omega, by omega⟩ ⟨by omega, by omega⟩ (by decide)) ?_
    refine jr_1 jm_231 (show jw_cd cd_231 35 = some (.aload_n 0) by decide +kernel) rfl ?_
    refine jr_1 jm_231 (show jw_cd cd_231 36 = some (.getfield 101) by decide +kernel) (mg_a hl (a := 46) (show jw_fld 34 101 16 = some 43 by decide +kernel) (by decide) (by decide)) ?_
    refine jr_1 jm_231 (show jw_cd cd_231 39 = some (.iload_n 2) by decide +kernel) rfl ?_
    refine jr_1 jm_231 (show jw_cd cd_231 40 = some (.aload_n 0) by decide +kernel) rfl ?_
    refine jr_1 jm_231 (show jw_cd cd_231 41 = some (.getfield 29) by decide +kernel) (mg_a hl (a := 22) (show jw_fld 34 29 16 = some 8 by decide +kernel) (by decide) (by decide)) ?_
    refine jr_1 jm_231 (show jw_cd cd_231 44 = some (.iload 4) by decide +kernel) rfl ?_
    refine jr_1 jm_231 (show jw_cd cd_231 46 = some (.iaload) by decide +kernel) (ma_i hl (i := x) (e := σ 8 (x)) 8 (by omega) (by show _ < ((1740 : Nat) : Int); omega) (congrFun e8 _) (by decide) (by decide) (by decide)) ?_
    refine jr_1 jm_231 (show jw_cd cd_231 47 = some (.iastore) by decide +kernel) (ms_i hl (i := many) (x := σ 8 (x)) 43 (by omega) (by show _ < ((400 : Nat) : Int); omega) (by decide) (by decide) (by decide)) ?_
    refine jr_1 jm_231 (F2 := (51, [some (.ref 15), some (.int (Int32.ofInt (v))), some (.int (Int32.ofInt (many + 1))), some (.int (Int32.ofInt (k))), some (.int (Int32.ofInt (x)))], [], ml_mk h (su τ 43 (many) (σ 8 (x))))) (show jw_cd cd_231 48 = some (.iinc 2 1) by decide +kernel) (mt_inc (a := many) (c := many + 1) rfl (by omega) rfl) ?_
    refine jr_1 jm_231 (show jw_cd cd_231 51 = some (.aload_n 0) by decide +kernel) rfl ?_
    refine jr_1 jm_231 (show jw_cd cd_231 52 = some (.getfield 35) by decide +kernel) (mg_a hl (a := 24) (show jw_fld 34 35 16 = some 10 by decide +kernel) (by decide) (by decide)) ?_
    refine jr_1 jm_231 (show jw_cd cd_231 55 = some (.iload 4) by decide +kernel) rfl ?_
    refine jr_1 jm_231 (show jw_cd cd_231 57 = some (.iaload) by decide +kernel) (ma_i hl (i := x) (e := σ 10 (x)) 10 (by omega) (by show _ < ((1740 : Nat) : Int); omega) ((su_nf (by decide)).trans (congrFun e10 _)) (by decide) (by decide) (by decide)) ?_
    refine jr_1 jm_231 (F2 := (60, [some (.ref 15), some (.int (Int32.ofInt (v))), some (.int (Int32.ofInt (many + 1))), some (.int (Int32.ofInt (k))), some (.int (Int32.ofInt (σ 10 (x))))], [], ml_mk h (su τ 43 (many) (σ 8 (x))))) (show jw_cd cd_231 58 = some (.istore 4) by decide +kernel) rfl ?_
    refine jr_1 jm_231 (show jw_cd cd_231 60 = some (.goto (-31)) by decide +kernel) (ju_go (t := 29) (by decide)) ?_
    refine r1 res ?_
    rw [show many + 1 + ((fsz n : Nat) : Int) = many + ((fsz (.inner s0 i u0 c n) : Nat) : Int) from by show many + 1 + ((fsz n : Nat) : Int) = many + ((fsz n + 1 : Nat) : Int); omega]
    exact kk
theorem jn_so_out {β : Bool} {d : Nat} {h : jx_H} {σ : mS} (hl : 49 ≤ h.length) {A B : Int → Prop} (hA : mIx A) (hB : mIx B) {v : Int} : ∀ (s : Nat) (G : List FT) (k many : Int) (τ : mS) (c4 : Option Value), G.length + fctL G = s → mEq [43] σ τ → qP σ A B (τ 43) k G → many = k + G.length → 0 ≤ k → many + fctL G ≤ 400 →
    ∃ τ', jx_r (jz β) jw_M (d) 231 (11, [some (.ref 15), some (.int (Int32.ofInt (v))), some (.int (Int32.ofInt (many))), some (.int (Int32.ofInt (k))), c4], [], ml_mk h τ) (ml_mk h (τ'), .inl (some (.int (Int32.ofInt (many + (fctL G : Int)))))) ∧ mEq [43] σ τ'
  | s, [], k, many, τ, c4, hs, hq, hG, hm, hk, hb => by
    refine ⟨τ, ?_, hq⟩
    rw [show many + ((fctL [] : Nat) : Int) = many from Int.add_zero many]
    have hm : many = k := by simp at hm; exact hm
    have hb : many ≤ 400 := by
      have : (0 : Int) ≤ ((fctL [] : Nat) : Int) := Int.natCast_nonneg _
      omega
    refine jr_1 jm_231 (show jw_cd cd_231 11 = some (.iload_n 3) by decide +kernel) rfl ?_
    refine jr_1 jm_231 (show jw_cd cd_231 12 = some (.iload_n 2) by decide +kernel) rfl ?_
    refine jr_1 jm_231 (show jw_cd cd_231 13 = some (.if_icmp .ge 56) by decide +kernel) (mb_t (q := .ge) (a := k) (b := many) (t := 69) (by show many ≤ k; omega) ⟨by omega, by omega⟩ ⟨by omega, by omega⟩ (by decide) (by decide)) ?_
    refine jr_1 jm_231 (show jw_cd cd_231 69 = some (.iload_n 2) by decide +kernel) rfl ?_
    exact jr_v jm_231 (show jw_cd cd_231 70 = some (.ireturn) by decide +kernel) rfl
  | 0, F :: G, k, many, τ, c4, hs, hq, hG, hm, hk, hb => by
    simp at hs
  | s + 1, F :: G, k, many, τ, c4, hs, hq, hG, hm, hk, hb => by
    obtain ⟨h1, h2, h3⟩ := hG
    have hv := hA _ h1
    have e6 : τ 6 = σ 6 := hq 6 (by decide)
    have e8 : τ 8 = σ 8 := hq 8 (by decide)
    have e10 : τ 10 = σ 10 := hq 10 (by decide)
    have hc := kids_ct F
    have hf : fctL (F :: G) = fct F + fctL G := rfl
    have hgl : ((F :: G).length : Int) = G.length + 1 := by simp
    have hkl := kids_len F
    obtain ⟨τ', r1, q1, q2⟩ := jn_so_in (β := β) (d := d) (v := v) hl hA hB hk (by omega) F (σ 6 (τ 43 k)) many τ G hq h2 h3 (by omega) (by omega)
    obtain ⟨τ2, r2, q3⟩ := jn_so_out (β := β) (d := d) hl hA hB (v := v) s (G ++ kids F) (k + 1) (many + (fsz F : Int)) τ' (some (.int (Int32.ofInt (-1)))) (by rw [List.length_append, fctL_app, hkl]; simp at hs; omega) q1 q2 (by rw [List.length_append, hkl]; simp; omega) (by omega) (by rw [fctL_app]; omega)
    refine ⟨τ2, ?_, q3⟩
    rw [show many + (fsz F : Int) + ((fctL (G ++ kids F) : Nat) : Int) = many + (fctL (F :: G) : Int) from by rw [fctL_app]; omega] at r2
    refine jr_1 jm_231 (show jw_cd cd_231 11 = some (.iload_n 3) by decide +kernel) rfl ?_
    refine jr_1 jm_231 (show jw_cd cd_231 12 = some (.iload_n 2) by decide +kernel) rfl ?_
    refine jr_1 jm_231 (show jw_cd cd_231 13 = some (.if_icmp .ge 56) by decide +kernel) (mb_f (q := .ge) (a := k) (b := many) (by show ¬ (many ≤ k); omega) ⟨by omega, by omega⟩ ⟨by omega, by omega⟩ (by decide)) ?_
    refine jr_1 jm_231 (show jw_cd cd_231 16 = some (.aload_n 0) by decide +kernel) rfl ?_
    refine jr_1 jm_231 (show jw_cd cd_231 17 = some (.getfield 23) by decide +kernel) (mg_a hl (a := 20) (show jw_fld 34 23 16 = some 6 by decide +kernel) (by decide) (by decide)) ?_
    refine jr_1 jm_231 (show jw_cd cd_231 20 = some (.aload_n 0) by decide +kernel) rfl ?_
    refine jr_1 jm_231 (show jw_cd cd_231 21 = some (.getfield 101) by decide +kernel) (mg_a hl (a := 46) (show jw_fld 34 101 16 = some 43 by decide +kernel) (by decide) (by decide)) ?_
    refine jr_1 jm_231 (show jw_cd cd_231 24 = some (.iload_n 3) by decide +kernel) rfl ?_
    refine jr_1 jm_231 (show jw_cd cd_231 25 = some (.iaload) by decide +kernel) (ma_i hl (i := k) (e := τ 43 (k)) 43 (by omega) (by show _ < ((400 : Nat) : Int); omega) rfl (by decide) (by decide) (by decide)) ?_
    refine jr_1 jm_231 (show jw_cd cd_231 26 = some (.iaload) by decide +kernel) (ma_i hl (i := τ 43 (k)) (e := σ 6 (τ 43 (k))) 6 (by omega) (by show _ < ((1740 : Nat) : Int); omega) (congrFun e6 _) (by decide) (by decide) (by decide)) ?_
    refine jr_1 jm_231 (F2 := (29, [some (.ref 15), some (.int (Int32.ofInt (v))), some (.int (Int32.ofInt (many))), some (.int (Int32.ofInt (k))), some (.int (Int32.ofInt (σ 6 (τ 43 (k)))))], [], ml_mk h τ)) (show jw_cd cd_231 27 = some (.istore 4) by decide +kernel) rfl ?_
    refine r1 _ ?_
    refine jr_1 jm_231 (F2 := (66, [some (.ref 15), some (.int (Int32.ofInt (v))), some (.int (Int32.ofInt (many + (fsz F : Int)))), some (.int (Int32.ofInt (k + 1))), some (.int (Int32.ofInt (-1)))], [], ml_mk h τ')) (show jw_cd cd_231 63 = some (.iinc 3 1) by decide +kernel) (mt_inc (a := k) (c := k + 1) rfl (by omega) rfl) ?_
    refine jr_1 jm_231 (show jw_cd cd_231 66 = some (.goto (-55)) by decide +kernel) (ju_go (t := 11) (by decide)) ?_
    exact r2
theorem jn_sizeOf {β : Bool} {d : Nat} {h : jx_H} {σ : mS} (hl : 49 ≤ h.length) {A B : Int → Prop} (hA : mIx A) (hB : mIx B) {v : Int} {i : tI} {F : FT} (hV : mV σ A B v i F) (hN : 1 + fct F ≤ 400) : ∃ τ, jx_r (jz β) jw_M (d) 231 (0, [some (.ref 15), some (.int (Int32.ofInt (v))), none, none, none], [], ml_mk h σ) (ml_mk h (τ), .inl (some (.int (Int32.ofInt (1 + (fct F : Int)))))) ∧ mEq [43] σ τ := by
  obtain ⟨h1, h2, h3⟩ := hV
  have hv := hA _ h1
  obtain ⟨τ, r1, r2⟩ := jn_so_out (β := β) (d := d) (v := v) hl hA hB (1 + (fct F + 0)) [F] 0 1 (su σ 43 (0) (v)) none rfl (mEq_su (mEq_refl _ _) (by decide)) (by
    refine ⟨?_, ?_, trivial⟩
    · rw [su_eq]
      exact h1
    · rw [su_eq]
      exact h3) rfl (by omega) (by show (1 : Int) + ((fct F + 0 : Nat) : Int) ≤ 400; omega)
  refine ⟨τ, ?_, r2⟩
  refine jr_1 jm_231 (show jw_cd cd_231 0 = some (.aload_n 0) by decide +kernel) rfl ?_
  refine jr_1 jm_231 (show jw_cd cd_231 1 = some (.getfield 101) by decide +kernel) (mg_a hl (a := 46) (show jw_fld 34 101 16 = some 43 by decide +kernel) (by decide) (by decide)) ?_
  refine jr_1 jm_231 (show jw_cd cd_231 4 = some (.iconst 0) by decide +kernel) rfl ?_
  refine jr_1 jm_231 (show jw_cd cd_231 5 = some (.iload_n 1) by decide +kernel) rfl ?_
  refine jr_1 jm_231 (show jw_cd cd_231 6 = some (.iastore) by decide +kernel) (ms_i hl (i := 0) (x := v) 43 (by omega) (by show _ < ((400 : Nat) : Int); omega) (by decide) (by decide) (by decide)) ?_
  refine jr_1 jm_231 (show jw_cd cd_231 7 = some (.iconst 1) by decide +kernel) rfl ?_
  refine jr_1 jm_231 (F2 := (9, [some (.ref 15), some (.int (Int32.ofInt (v))), some (.int (Int32.ofInt (1))), none, none], [], ml_mk h (su σ 43 (0) (v)))) (show jw_cd cd_231 8 = some (.istore_n 2) by decide +kernel) rfl ?_
  refine jr_1 jm_231 (show jw_cd cd_231 9 = some (.iconst 0) by decide +kernel) rfl ?_
  refine jr_1 jm_231 (F2 := (11, [some (.ref 15), some (.int (Int32.ofInt (v))), some (.int (Int32.ofInt (1))), some (.int (Int32.ofInt (0))), none], [], ml_mk h (su σ 43 (0) (v)))) (show jw_cd cd_231 10 = some (.istore_n 3) by decide +kernel) rfl ?_
  exact r1

/-! ===== the model's members and turned lists (printed by program: gen37.py) ===== -/
def sib : FT → List (tI × FT)
  | .leaf => []
  | .inner _ i _ c n => (i, c) :: sib n
theorem sib_len : ∀ F : FT, (sib F).length = fsz F
  | .leaf => rfl
  | .inner _ _ _ _ n => by
    show (sib n).length + 1 = fsz n + 1
    rw [sib_len n]
theorem qV_app {τ : mS} {A B : Int → Prop} {u : Int → Int} : ∀ (l l' : List (tI × FT)) (k : Int), qV τ A B u k l → qV τ A B u (k + l.length) l' → qV τ A B u k (l ++ l')
  | [], l', k, _, h => by
    rw [show k + (([] : List (tI × FT)).length : Int) = k by simp] at h
    exact h
  | (i, c) :: l, l', k, h, h' => ⟨h.1, qV_app l l' (k + 1) h.2 (by rw [show k + 1 + (l.length : Int) = k + (((i, c) :: l).length : Int) by simp; omega]; exact h')⟩
theorem qV_upd {τ : mS} {A B : Int → Prop} {u u' : Int → Int} : ∀ (l : List (tI × FT)) (k : Int), (∀ j, k ≤ j → j < k + l.length → u' j = u j) → qV τ A B u k l → qV τ A B u' k l
  | [], _, _, _ => trivial
  | (i, c) :: l, k, hu, h => ⟨by rw [hu k (Int.le_refl k) (by simp; omega)]; exact h.1, qV_upd l (k + 1) (fun j j1 j2 => hu j (by omega) (by simp; omega)) h.2⟩
theorem mV_fr {τ τ' : mS} {A B A' B' : Int → Prop} {w : Int} {i : tI} {c : FT} (hA : ∀ f v, 3 ≤ f → f ≤ 7 → A v → τ' f v = τ f v) (hB : ∀ f x, 8 ≤ f → f ≤ 10 → B x → τ' f x = τ f x) (iA : ∀ v, A v → A' v) (iB : ∀ x, B x → B' x) (h : mV τ A B w i c) : mV τ' A' B' w i c := by
  have hA3 : ∀ v, A v → τ' 3 v = τ 3 v ∧ τ' 4 v = τ 4 v ∧ τ' 5 v = τ 5 v ∧ τ' 6 v = τ 6 v ∧ τ' 7 v = τ 7 v := fun v hv => ⟨hA 3 v (by decide) (by decide) hv, hA 4 v (by decide) (by decide) hv, hA 5 v (by decide) (by decide) hv, hA 6 v (by decide) (by decide) hv, hA 7 v (by decide) (by decide) hv⟩
  have hB3 : ∀ x, B x → τ' 8 x = τ 8 x ∧ τ' 9 x = τ 9 x ∧ τ' 10 x = τ 10 x := fun x hx => ⟨hB 8 x (by decide) (by decide) hx, hB 9 x (by decide) (by decide) hx, hB 10 x (by decide) (by decide) hx⟩
  obtain ⟨a1, ⟨n1, n2, n3, n4⟩, hF⟩ := h
  obtain ⟨x1, x2, x3, x4, x5⟩ := hA3 w a1
  exact ⟨iA _ a1, ⟨x1.trans n1, x2.trans n2, x3.trans n3, x5.trans n4⟩, by rw [x4]; exact mF_mono iA iB c _ (mF_frame hA3 hB3 c _ hF)⟩
theorem qV_fr {τ τ' : mS} {A B A' B' : Int → Prop} {u : Int → Int} (hA : ∀ f v, 3 ≤ f → f ≤ 7 → A v → τ' f v = τ f v) (hB : ∀ f x, 8 ≤ f → f ≤ 10 → B x → τ' f x = τ f x) (iA : ∀ v, A v → A' v) (iB : ∀ x, B x → B' x) : ∀ (l : List (tI × FT)) (k : Int), qV τ A B u k l → qV τ' A' B' u k l
  | [], _, _ => trivial
  | (i, c) :: l, k, h => ⟨mV_fr hA hB iA iB h.1, qV_fr hA hB iA iB l (k + 1) h.2⟩
theorem jn_mem0 {β : Bool} {d : Nat} {h : jx_H} {σ : mS} (hl : 49 ≤ h.length) {A B : Int → Prop} (hA : mIx A) (hB : mIx B) {v : Int} : ∀ (F : FT) (x m : Int) (τ : mS) (l : List (tI × FT)) (c5 : Option Value), mEq [43] σ τ → mF σ A B F x → qV σ A B (τ 43) 0 l → m = l.length → m + fsz F ≤ 400 → ∃ (τ' : mS) (c5' : Option Value), (∀ res, jx_r (jz β) jw_M (d + 1 + 1) 251 (69, [some (.ref 15), some (.int (Int32.ofInt (v))), some (.int (Int32.ofInt (0))), some (.int (Int32.ofInt (m + (fsz F : Int)))), some (.int (Int32.ofInt (-1))), c5'], [], ml_mk h τ') res → jx_r (jz β) jw_M (d + 1 + 1) 251 (10, [some (.ref 15), some (.int (Int32.ofInt (v))), some (.int (Int32.ofInt (0))), some (.int (Int32.ofInt (m))), some (.int (Int32.ofInt (x))), c5], [], ml_mk h τ) res) ∧ mEq [43] σ τ' ∧ qV σ A B (τ' 43) 0 (l ++ sib F)
  | .leaf, x, m, τ, l, c5, hq, hx, hG, hm, hs => by
    have hx : x = -1 := hx
    subst hx
    refine ⟨τ, c5, fun res kk => ?_, hq, by rw [show sib .leaf = [] from rfl, List.append_nil]; exact hG⟩
    rw [show m + ((fsz .leaf : Nat) : Int) = m from Int.add_zero m] at kk
    refine jr_1 jm_251 (show jw_cd cd_251 10 = some (.iload 4) by decide +kernel) rfl ?_
    refine jr_1 jm_251 (show jw_cd cd_251 12 = some (.iconst (-1)) by decide +kernel) rfl ?_
    refine jr_1 jm_251 (show jw_cd cd_251 13 = some (.if_icmp .eq 56) by decide +kernel) (mb_t (q := .eq) (a := -1) (b := -1) (t := 69) (by show -1 = -1; omega) ⟨by omega, by omega⟩ ⟨by omega, by omega⟩ (by decide) (by decide)) ?_
    exact kk
  | .inner s0 i u0 c n, x, m, τ, l, c5, hq, hx, hG, hm, hs => by
    obtain ⟨h1, h2, h3, h4, h5, h6⟩ := hx
    have hx := hB x h1
    have hv := hA _ h2
    have hs : m + ((fsz n + 1 : Nat) : Int) ≤ 400 := hs
    have e6 : τ 6 = σ 6 := hq 6 (by decide)
    have e8 : τ 8 = σ 8 := hq 8 (by decide)
    have e10 : τ 10 = σ 10 := hq 10 (by decide)
    obtain ⟨τ', c5', r1, r2, r3⟩ := jn_mem0 (β := β) (d := d) (v := v) hl hA hB n (σ 10 x) (m + 1) (su τ 43 (m) (σ 8 (x))) (l ++ [(i, c)]) (some (.int (Int32.ofInt (σ 8 (x))))) (mEq_su hq (by decide)) h6 (by
      refine qV_app l [(i, c)] 0 (qV_upd l 0 (fun j j1 j2 => su_ni (by omega)) hG) ?_
      rw [show (0 : Int) + (l.length : Int) = m by omega]
      refine ⟨?_, trivial⟩
      rw [su_eq]
      exact ⟨h2, h4, h5⟩) (by simp; omega) (by omega)
    refine ⟨τ', c5', fun res kk => ?_, r2, by rw [List.append_assoc] at r3; exact r3⟩
    refine jr_1 jm_251 (show jw_cd cd_251 10 = some (.iload 4) by decide +kernel) rfl ?_
    refine jr_1 jm_251 (show jw_cd cd_251 12 = some (.iconst (-1)) by decide +kernel) rfl ?_
    refine jr_1 jm_251 (show jw_cd cd_251 13 = some (.if_icmp .eq 56) by decide +kernel) (mb_f (q := .eq) (a := x) (b := -1) (by show ¬ (x = -1); omega) ⟨by omega, by omega⟩ ⟨by omega, by omega⟩ (by decide)) ?_
    refine jr_1 jm_251 (show jw_cd cd_251 16 = some (.iload_n 2) by decide +kernel) rfl ?_
    refine jr_1 jm_251 (show jw_cd cd_251 17 = some (.ifCond .eq 20) by decide +kernel) (mz_t (q := .eq) (a := 0) (t := 37) (by show 0 = 0; omega) ⟨by omega, by omega⟩ (by decide) (by decide)) ?_
    refine jr_1 jm_251 (show jw_cd cd_251 37 = some (.aload_n 0) by decide +kernel) rfl ?_
    refine jr_1 jm_251 (show jw_cd cd_251 38 = some (.getfield 29) by decide +kernel) (mg_a hl (a := 22) (show jw_fld 34 29 16 = some 8 by decide +kernel) (by decide) (by decide)) ?_
    refine jr_1 jm_251 (show jw_cd cd_251 41 = some (.iload 4) by decide +kernel) rfl ?_
    refine jr_1 jm_251 (show jw_cd cd_251 43 = some (.iaload) by decide +kernel) (ma_i hl (i := x) (e := σ 8 (x)) 8 (by omega) (by show _ < ((1740 : Nat) : Int); omega) (congrFun e8 _) (by decide) (by decide) (by decide)) ?_
    refine jr_1 jm_251 (F2 := (46, [some (.ref 15), some (.int (Int32.ofInt (v))), some (.int (Int32.ofInt (0))), some (.int (Int32.ofInt (m))), some (.int (Int32.ofInt (x))), some (.int (Int32.ofInt (σ 8 (x))))], [], ml_mk h τ)) (show jw_cd cd_251 44 = some (.istore 5) by decide +kernel) rfl ?_
    refine jr_1 jm_251 (show jw_cd cd_251 46 = some (.aload_n 0) by decide +kernel) rfl ?_
    refine jr_1 jm_251 (show jw_cd cd_251 47 = some (.getfield 101) by decide +kernel) (mg_a hl (a := 46) (show jw_fld 34 101 16 = some 43 by decide +kernel) (by decide) (by decide)) ?_
    refine jr_1 jm_251 (show jw_cd cd_251 50 = some (.iload_n 3) by decide +kernel) rfl ?_
    refine jr_1 jm_251 (show jw_cd cd_251 51 = some (.iload 5) by decide +kernel) rfl ?_
    refine jr_1 jm_251 (show jw_cd cd_251 53 = some (.iastore) by decide +kernel) (ms_i hl (i := m) (x := σ 8 (x)) 43 (by omega) (by show _ < ((400 : Nat) : Int); omega) (by decide) (by decide) (by decide)) ?_
    refine jr_1 jm_251 (F2 := (57, [some (.ref 15), some (.int (Int32.ofInt (v))), some (.int (Int32.ofInt (0))), some (.int (Int32.ofInt (m + 1))), some (.int (Int32.ofInt (x))), some (.int (Int32.ofInt (σ 8 (x))))], [], ml_mk h (su τ 43 (m) (σ 8 (x))))) (show jw_cd cd_251 54 = some (.iinc 3 1) by decide +kernel) (mt_inc (a := m) (c := m + 1) rfl (by omega) rfl) ?_
    refine jr_1 jm_251 (show jw_cd cd_251 57 = some (.aload_n 0) by decide +kernel) rfl ?_
    refine jr_1 jm_251 (show jw_cd cd_251 58 = some (.getfield 35) by decide +kernel) (mg_a hl (a := 24) (show jw_fld 34 35 16 = some 10 by decide +kernel) (by decide) (by decide)) ?_
    refine jr_1 jm_251 (show jw_cd cd_251 61 = some (.iload 4) by decide +kernel) rfl ?_
    refine jr_1 jm_251 (show jw_cd cd_251 63 = some (.iaload) by decide +kernel) (ma_i hl (i := x) (e := σ 10 (x)) 10 (by omega) (by show _ < ((1740 : Nat) : Int); omega) ((su_nf (by decide)).trans (congrFun e10 _)) (by decide) (by decide) (by decide)) ?_
    refine jr_1 jm_251 (F2 := (66, [some (.ref 15), some (.int (Int32.ofInt (v))), some (.int (Int32.ofInt (0))), some (.int (Int32.ofInt (m + 1))), some (.int (Int32.ofInt (σ 10 (x)))), some (.int (Int32.ofInt (σ 8 (x))))], [], ml_mk h (su τ 43 (m) (σ 8 (x))))) (show jw_cd cd_251 64 = some (.istore 4) by decide +kernel) rfl ?_
    refine jr_1 jm_251 (show jw_cd cd_251 66 = some (.goto (-56)) by decide +kernel) (ju_go (t := 10) (by decide)) ?_
    refine r1 res ?_
    rw [show m + 1 + ((fsz n : Nat) : Int) = m + ((fsz (.inner s0 i u0 c n) : Nat) : Int) from by show m + 1 + ((fsz n : Nat) : Int) = m + ((fsz n + 1 : Nat) : Int); omega]
    exact kk
/-- what a new list made over the pile leaves alone -/
def ldG (τ τ' : mS) (n0 n1 z0 z1 : Int) : Prop := (∀ f v, 3 ≤ f → f ≤ 7 → ¬ In n0 n1 v → τ' f v = τ f v) ∧ (∀ f x, 8 ≤ f → f ≤ 10 → ¬ In z0 z1 x → τ' f x = τ f x) ∧ (∀ f, f ∉ [3, 4, 5, 6, 7, 8, 9, 10, 11, 12, 43, 44] → τ' f = τ f) ∧ (∀ v, ¬ v = 4 → τ' 11 v = τ 11 v ∧ τ' 12 v = τ 12 v)
theorem jn_values {β : Bool} {d : Nat} {h : jx_H} {σ : mS} (hl : 49 ≤ h.length) {A B : Int → Prop} (hA : mIx A) (hB : mIx B) {v nn cc : Int} {i0 : tI} {F : FT} (hV : mV σ A B v i0 F) (e11 : σ 11 4 = nn) (hn0 : 0 ≤ nn) (hn1 : 170 * 4 + nn < 1740) (e12 : σ 12 4 = cc) (hc0 : 0 ≤ cc) (hm4 : fsz F ≤ 400) (hc1 : 170 * 4 + cc + fsz F ≤ 1740) (hAn : ¬ A (170 * 4 + nn)) (hBn : ∀ x, B x → ¬ In (170 * 4 + cc) (170 * 4 + cc + fsz F) x) : ∃ τ2, jx_r (jz β) jw_M (d + 1 + 1) 251 (0, [some (.ref 15), some (.int (Int32.ofInt (v))), some (.int (Int32.ofInt (0))), none, none, none], [], ml_mk h σ) (ml_mk h (τ2), .inl (some (.int (Int32.ofInt (170 * 4 + nn))))) ∧ mV τ2 (fun v => A v ∨ v = 170 * 4 + nn) (fun x => B x ∨ In (170 * 4 + cc) (170 * 4 + cc + fsz F) x) (170 * 4 + nn) (5, 0, [], []) (fl (sib F)) ∧ τ2 11 4 = nn + 1 ∧ τ2 12 4 = cc + fsz F ∧ ldG σ τ2 (170 * 4 + nn) (170 * 4 + nn + 1) (170 * 4 + cc) (170 * 4 + cc + fsz F) := by
  obtain ⟨a0, hN0, hF⟩ := hV
  obtain ⟨av0, av1⟩ := hA _ a0
  obtain ⟨τ', c5', r1, r2, r3⟩ := jn_mem0 (β := β) (d := d) (v := v) hl hA hB F (σ 6 v) 0 σ [] none (mEq_refl _ _) hF trivial rfl (by omega)
  rw [List.nil_append] at r3
  have r3' : qV τ' A B (τ' 43) 0 (sib F) := qV_fr (fun f v f1 f2 _ => by rw [r2 f (by simp; omega)]) (fun f x f1 f2 _ => by rw [r2 f (by simp; omega)]) (fun _ h => h) (fun _ h => h) _ _ r3
  obtain ⟨τ2, l1, l2, l3, l4, l5, l6, l7, l8⟩ := jn_listed (β := β) (d := d) hl (A := A) (B := B) (τ := τ') (m := 0 + (fsz F : Int)) ((congrFun (r2 11 (by decide)) 4).trans e11) hn0 hn1 ((congrFun (r2 12 (by decide)) 4).trans e12) hc0 (by rw [sib_len]; omega) (by omega) (by omega) hAn (by rw [Int.zero_add]; exact hBn) r3'
  rw [Int.zero_add] at l2 l4 l6
  refine ⟨τ2, ?_, l2, l3, l4, fun f v f1 f2 hv => ?_, fun f x f1 f2 hx => ?_, fun f hf => ?_, fun v hv => ?_⟩
  · skip
    refine jr_1 jm_251 (show jw_cd cd_251 0 = some (.iconst 0) by decide +kernel) rfl ?_
    refine jr_1 jm_251 (F2 := (2, [some (.ref 15), some (.int (Int32.ofInt (v))), some (.int (Int32.ofInt (0))), some (.int (Int32.ofInt (0))), none, none], [], ml_mk h σ)) (show jw_cd cd_251 1 = some (.istore_n 3) by decide +kernel) rfl ?_
    refine jr_1 jm_251 (show jw_cd cd_251 2 = some (.aload_n 0) by decide +kernel) rfl ?_
    refine jr_1 jm_251 (show jw_cd cd_251 3 = some (.getfield 23) by decide +kernel) (mg_a hl (a := 20) (show jw_fld 34 23 16 = some 6 by decide +kernel) (by decide) (by decide)) ?_
    refine jr_1 jm_251 (show jw_cd cd_251 6 = some (.iload_n 1) by decide +kernel) rfl ?_
    refine jr_1 jm_251 (show jw_cd cd_251 7 = some (.iaload) by decide +kernel) (ma_i hl (i := v) (e := σ 6 (v)) 6 (by omega) (by show _ < ((1740 : Nat) : Int); omega) rfl (by decide) (by decide) (by decide)) ?_
    refine jr_1 jm_251 (F2 := (10, [some (.ref 15), some (.int (Int32.ofInt (v))), some (.int (Int32.ofInt (0))), some (.int (Int32.ofInt (0))), some (.int (Int32.ofInt (σ 6 (v)))), none], [], ml_mk h σ)) (show jw_cd cd_251 8 = some (.istore 4) by decide +kernel) rfl ?_
    refine r1 _ ?_
    refine jr_1 jm_251 (show jw_cd cd_251 69 = some (.aload_n 0) by decide +kernel) rfl ?_
    refine jr_1 jm_251 (show jw_cd cd_251 70 = some (.iload_n 3) by decide +kernel) rfl ?_
    refine jr_c jm_251 (show jw_cd cd_251 71 = some (.invokevirtual 311) by decide +kernel) (mc_v hl (n := 1) (m2 := 252) (bs := [.int (Int32.ofInt (0 + (fsz F : Int)))]) (r := []) (show jw_find jw_cvT 34 311 = some (1, [(16, 252)]) by decide +kernel) (by decide) rfl rfl rfl) jm_252 ⟨Nat.le_of_ble_eq_true rfl, by decide⟩ l1 ?_
    exact jr_v jm_251 (show jw_cd cd_251 74 = some (.ireturn) by decide +kernel) rfl
  · rw [l5 f v f1 f2 (fun e => hv ⟨by omega, by omega⟩), r2 f (by simp; omega)]
  · rw [l6 f x f1 f2 hx, r2 f (by simp; omega)]
  · simp only [List.mem_cons, List.mem_nil_iff, or_false, not_or] at hf
    rw [l7 f (by simp; omega), r2 f (by simp; omega)]
  · rw [(l8 v hv).1, (l8 v hv).2, r2 11 (by decide), r2 12 (by decide)]
    exact ⟨rfl, rfl⟩
def kys (F : FT) : List (tI × FT) := (sib F).map fun x => ((4, 0, x.1.2.2.2, []), .leaf)
def mmF (σ τ : mS) (n0 n1 : Int) : Prop := (∀ f v, 3 ≤ f → f ≤ 7 → ¬ In n0 n1 v → τ f v = σ f v) ∧ (∀ f, f ∉ [3, 4, 5, 6, 7, 11, 43] → τ f = σ f) ∧ (∀ v, ¬ v = 4 → τ 11 v = σ 11 v)
theorem jn_mem1 {β : Bool} {d : Nat} {h : jx_H} {σ : mS} (hl : 49 ≤ h.length) {A B : Int → Prop} (hA : mIx A) (hB : mIx B) {v nn : Int} (hn0 : 0 ≤ nn) (hnA : ∀ w, A w → w < 170 * 4 + nn) : ∀ (F : FT) (x m : Int) (τ : mS) (l : List (tI × FT)) (c5 : Option Value), mmF σ τ (170 * 4 + nn) (170 * 4 + (nn + m)) → τ 11 4 = nn + m → mF σ A B F x → qV τ (In (170 * 4 + nn) (170 * 4 + (nn + m))) (fun _ => False) (τ 43) 0 l → m = l.length → m + fsz F ≤ 400 → 170 * 4 + (nn + m) + fsz F ≤ 1740 → ∃ (τ' : mS) (c5' : Option Value), (∀ res, jx_r (jz β) jw_M (d + 1 + 1) 251 (69, [some (.ref 15), some (.int (Int32.ofInt (v))), some (.int (Int32.ofInt (1))), some (.int (Int32.ofInt (m + (fsz F : Int)))), some (.int (Int32.ofInt (-1))), c5'], [], ml_mk h τ') res → jx_r (jz β) jw_M (d + 1 + 1) 251 (10, [some (.ref 15), some (.int (Int32.ofInt (v))), some (.int (Int32.ofInt (1))), some (.int (Int32.ofInt (m))), some (.int (Int32.ofInt (x))), c5], [], ml_mk h τ) res) ∧ mmF σ τ' (170 * 4 + nn) (170 * 4 + (nn + (m + fsz F))) ∧ τ' 11 4 = nn + (m + fsz F) ∧ qV τ' (In (170 * 4 + nn) (170 * 4 + (nn + (m + fsz F)))) (fun _ => False) (τ' 43) 0 (l ++ kys F)
  | .leaf, x, m, τ, l, c5, hq, e11, hx, hG, hm, hs, hb => by
    have hx : x = -1 := hx
    subst hx
    have e0 : m + ((fsz .leaf : Nat) : Int) = m := Int.add_zero m
    refine ⟨τ, c5, fun res kk => ?_, by rw [e0]; exact hq, by rw [e0]; exact e11, by rw [e0, show kys .leaf = [] from rfl, List.append_nil]; exact hG⟩
    rw [e0] at kk
    refine jr_1 jm_251 (show jw_cd cd_251 10 = some (.iload 4) by decide +kernel) rfl ?_
    refine jr_1 jm_251 (show jw_cd cd_251 12 = some (.iconst (-1)) by decide +kernel) rfl ?_
    refine jr_1 jm_251 (show jw_cd cd_251 13 = some (.if_icmp .eq 56) by decide +kernel) (mb_t (q := .eq) (a := -1) (b := -1) (t := 69) (by show -1 = -1; omega) ⟨by omega, by omega⟩ ⟨by omega, by omega⟩ (by decide) (by decide)) ?_
    exact kk
  | .inner s0 i u0 c n, x, m, τ, l, c5, hq, e11, hx, hG, hm, hs, hb => by
    obtain ⟨h1, h2, h3, h4, h5, h6⟩ := hx
    have hx := hB x h1
    have hv := hA _ h2
    have hs : m + ((fsz n + 1 : Nat) : Int) ≤ 400 := hs
    have hb : 170 * 4 + (nn + m) + ((fsz n + 1 : Nat) : Int) ≤ 1740 := hb
    have es : m + ((fsz (.inner s0 i u0 c n) : Nat) : Int) = m + 1 + (fsz n : Int) := by show m + ((fsz n + 1 : Nat) : Int) = _; omega
    obtain ⟨q1, q2, q3⟩ := hq
    have p9 : τ 9 x = pk i.2.2.2 := by rw [q2 9 (by decide)]; exact h3
    have p10 : mNode τ 4 4 0 (pk i.2.2.2) 10 x = σ 10 x := by rw [mNode_o (by decide), q2 10 (by decide)]
    have hN : 170 * 4 + τ 11 4 = 170 * 4 + (nn + m) := by rw [e11]
    obtain ⟨τ1, hτ1⟩ : ∃ τ1, τ1 = (su (mNode τ 4 4 0 (pk i.2.2.2)) 43 (m) (170 * 4 + (nn + m))) := ⟨_, rfl⟩
    have w3 : ∀ f w, 3 ≤ f → f ≤ 7 → ¬ w = 170 * 4 + (nn + m) → τ1 f w = τ f w := fun f w f1 f2 hw => by
      rw [hτ1, su_nf (by omega)]
      obtain rfl | rfl | rfl | rfl | rfl : f = 3 ∨ f = 4 ∨ f = 5 ∨ f = 6 ∨ f = 7 := by omega
      · rw [mNode_3, hN, if_neg hw]
      · rw [mNode_4, hN, if_neg hw]
      · rw [mNode_5, hN, if_neg hw]
      · rw [mNode_6, hN, if_neg hw]
      · rw [mNode_7, hN, if_neg hw]
    have w11 : ∀ w, τ1 11 w = if w = 4 then nn + m + 1 else τ 11 w := fun w => by rw [hτ1, su_nf (by decide), mNode_11, e11]
    have w43 : ∀ w, τ1 43 w = if w = m then 170 * 4 + (nn + m) else τ 43 w := fun w => by
      rw [hτ1]
      by_cases hw : w = m
      · rw [if_pos hw, hw, su_eq]
      · rw [if_neg hw, su_ni hw, mNode_o (by decide)]
    obtain ⟨τ', c5', r1, r2, r3, r4⟩ := jn_mem1 (β := β) (d := d) (v := v) hl hA hB hn0 hnA n (σ 10 x) (m + 1) τ1 (l ++ [((4, 0, i.2.2.2, []), .leaf)]) (some (.int (Int32.ofInt (170 * 4 + (nn + m))))) ⟨fun f w f1 f2 hw => (w3 f w f1 f2 (fun e => hw ⟨by omega, by omega⟩)).trans (q1 f w f1 f2 (fun z => hw ⟨z.1, by have := z.2; omega⟩)), fun f hf => by
        simp only [List.mem_cons, List.mem_nil_iff, or_false, not_or] at hf
        rw [hτ1, su_row (by omega), mNode_o (by simp; omega)]
        exact q2 f (by simp; omega), fun w hw => by rw [w11, if_neg hw]; exact q3 w hw⟩ (by rw [w11, if_pos rfl]; omega) h6 (by
      refine qV_app l _ 0 (qV_upd l 0 (fun j j1 j2 => by rw [w43, if_neg (by omega)]) (qV_fr (fun f w f1 f2 hw => w3 f w f1 f2 (by have := hw.2; omega)) (fun _ _ _ _ h => absurd h id) (fun w hw => ⟨hw.1, by have := hw.2; omega⟩) (fun _ h => h) l 0 hG)) ?_
      rw [show (0 : Int) + (l.length : Int) = m by omega]
      refine ⟨?_, trivial⟩
      rw [w43, if_pos rfl, hτ1]
      refine ⟨⟨by omega, by omega⟩, ⟨?_, ?_, ?_, ?_⟩, ?_⟩
      · rw [su_nf (by decide), mNode_3, hN, if_pos rfl]
      · rw [su_nf (by decide), mNode_4, hN, if_pos rfl]
      · rw [su_nf (by decide), mNode_5, hN, if_pos rfl]
      · rw [su_nf (by decide), mNode_7, hN, if_pos rfl]
        rfl
      · show su _ 43 _ _ 6 _ = -1
        rw [su_nf (by decide), mNode_6, hN, if_pos rfl]) (by simp; omega) (by omega) (by omega)
    refine ⟨τ', c5', fun res kk => ?_, by rw [es]; exact r2, by rw [es]; exact r3, by rw [es]; rw [List.append_assoc] at r4; exact r4⟩
    rw [es] at kk
    refine jr_1 jm_251 (show jw_cd cd_251 10 = some (.iload 4) by decide +kernel) rfl ?_
    refine jr_1 jm_251 (show jw_cd cd_251 12 = some (.iconst (-1)) by decide +kernel) rfl ?_
    refine jr_1 jm_251 (show jw_cd cd_251 13 = some (.if_icmp .eq 56) by decide +kernel) (mb_f (q := .eq) (a := x) (b := -1) (by show ¬ (x = -1); omega) ⟨by omega, by omega⟩ ⟨by omega, by omega⟩ (by decide)) ?_
    refine jr_1 jm_251 (show jw_cd cd_251 16 = some (.iload_n 2) by decide +kernel) rfl ?_
    refine jr_1 jm_251 (show jw_cd cd_251 17 = some (.ifCond .eq 20) by decide +kernel) (mz_f (q := .eq) (a := 1) (by show ¬ (1 = 0); omega) ⟨by omega, by omega⟩ (by decide)) ?_
    refine jr_1 jm_251 (show jw_cd cd_251 20 = some (.aload_n 0) by decide +kernel) rfl ?_
    refine jr_1 jm_251 (show jw_cd cd_251 21 = some (.iconst 4) by decide +kernel) rfl ?_
    refine jr_1 jm_251 (show jw_cd cd_251 22 = some (.iconst 4) by decide +kernel) rfl ?_
    refine jr_1 jm_251 (show jw_cd cd_251 23 = some (.iconst 0) by decide +kernel) rfl ?_
    refine jr_1 jm_251 (show jw_cd cd_251 24 = some (.aload_n 0) by decide +kernel) rfl ?_
    refine jr_1 jm_251 (show jw_cd cd_251 25 = some (.getfield 32) by decide +kernel) (mg_a hl (a := 23) (show jw_fld 34 32 16 = some 9 by decide +kernel) (by decide) (by decide)) ?_
    refine jr_1 jm_251 (show jw_cd cd_251 28 = some (.iload 4) by decide +kernel) rfl ?_
    refine jr_1 jm_251 (show jw_cd cd_251 30 = some (.laload) by decide +kernel) (ma_j hl (i := x) (e := pk i.2.2.2) 9 (by omega) (by show _ < ((1740 : Nat) : Int); omega) p9 (by decide) (by decide) (by decide)) ?_
    refine jr_c jm_251 (show jw_cd cd_251 31 = some (.invokevirtual 110) by decide +kernel) (mc_v hl (n := 4) (m2 := 208) (bs := [.int (Int32.ofInt (4)), .int (Int32.ofInt (4)), .int (Int32.ofInt (0)), .long (Int64.ofInt (pk i.2.2.2))]) (r := []) (show jw_find jw_cvT 34 110 = some (4, [(16, 208)]) by decide +kernel) (by decide) rfl rfl rfl) jm_208 ⟨Nat.le_of_ble_eq_true rfl, by decide⟩ (jn_nodeM hl ⟨by decide, by decide⟩ (m := nn + m) e11 (by omega) (by omega)) ?_
    refine jr_1 jm_251 (show jw_cd cd_251 34 = some (.goto 10) by decide +kernel) (ju_go (t := 44) (by decide)) ?_
    refine jr_1 jm_251 (F2 := (46, [some (.ref 15), some (.int (Int32.ofInt (v))), some (.int (Int32.ofInt (1))), some (.int (Int32.ofInt (m))), some (.int (Int32.ofInt (x))), some (.int (Int32.ofInt (170 * 4 + (nn + m))))], [], ml_mk h (mNode τ 4 4 0 (pk i.2.2.2)))) (show jw_cd cd_251 44 = some (.istore 5) by decide +kernel) rfl ?_
    refine jr_1 jm_251 (show jw_cd cd_251 46 = some (.aload_n 0) by decide +kernel) rfl ?_
    refine jr_1 jm_251 (show jw_cd cd_251 47 = some (.getfield 101) by decide +kernel) (mg_a hl (a := 46) (show jw_fld 34 101 16 = some 43 by decide +kernel) (by decide) (by decide)) ?_
    refine jr_1 jm_251 (show jw_cd cd_251 50 = some (.iload_n 3) by decide +kernel) rfl ?_
    refine jr_1 jm_251 (show jw_cd cd_251 51 = some (.iload 5) by decide +kernel) rfl ?_
    refine jr_1 jm_251 (show jw_cd cd_251 53 = some (.iastore) by decide +kernel) (ms_i hl (i := m) (x := 170 * 4 + (nn + m)) 43 (by omega) (by show _ < ((400 : Nat) : Int); omega) (by decide) (by decide) (by decide)) ?_
    refine jr_1 jm_251 (F2 := (57, [some (.ref 15), some (.int (Int32.ofInt (v))), some (.int (Int32.ofInt (1))), some (.int (Int32.ofInt (m + 1))), some (.int (Int32.ofInt (x))), some (.int (Int32.ofInt (170 * 4 + (nn + m))))], [], ml_mk h (su (mNode τ 4 4 0 (pk i.2.2.2)) 43 (m) (170 * 4 + (nn + m))))) (show jw_cd cd_251 54 = some (.iinc 3 1) by decide +kernel) (mt_inc (a := m) (c := m + 1) rfl (by omega) rfl) ?_
    refine jr_1 jm_251 (show jw_cd cd_251 57 = some (.aload_n 0) by decide +kernel) rfl ?_
    refine jr_1 jm_251 (show jw_cd cd_251 58 = some (.getfield 35) by decide +kernel) (mg_a hl (a := 24) (show jw_fld 34 35 16 = some 10 by decide +kernel) (by decide) (by decide)) ?_
    refine jr_1 jm_251 (show jw_cd cd_251 61 = some (.iload 4) by decide +kernel) rfl ?_
    refine jr_1 jm_251 (show jw_cd cd_251 63 = some (.iaload) by decide +kernel) (ma_i hl (i := x) (e := σ 10 x) 10 (by omega) (by show _ < ((1740 : Nat) : Int); omega) ((su_nf (by decide)).trans p10) (by decide) (by decide) (by decide)) ?_
    refine jr_1 jm_251 (F2 := (66, [some (.ref 15), some (.int (Int32.ofInt (v))), some (.int (Int32.ofInt (1))), some (.int (Int32.ofInt (m + 1))), some (.int (Int32.ofInt (σ 10 x))), some (.int (Int32.ofInt (170 * 4 + (nn + m))))], [], ml_mk h (su (mNode τ 4 4 0 (pk i.2.2.2)) 43 (m) (170 * 4 + (nn + m))))) (show jw_cd cd_251 64 = some (.istore 4) by decide +kernel) rfl ?_
    refine jr_1 jm_251 (show jw_cd cd_251 66 = some (.goto (-56)) by decide +kernel) (ju_go (t := 10) (by decide)) ?_
    rw [← hτ1]
    exact r1 res kk

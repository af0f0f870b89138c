/-! ===== the model's keys, reverse, type, fits (printed by program: gen38.py) ===== -/
theorem kys_len (F : FT) : (kys F).length = fsz F := by
  unfold kys
  rw [List.length_map, sib_len]
theorem jn_keys {β : Bool} {d : Nat} {h : jx_H} {σ : mS} (hl : 49 ≤ h.length) {A B : Int → Prop} (hA : mIx A) (hB : mIx B) {v nn cc : Int} {i0 : tI} {F : FT} (hV : mV σ A B v i0 F) (e11 : σ 11 4 = nn) (hn0 : 0 ≤ nn) (e12 : σ 12 4 = cc) (hc0 : 0 ≤ cc) (hm4 : fsz F ≤ 400) (hc1 : 170 * 4 + cc + fsz F ≤ 1740) (hn1 : 170 * 4 + nn + fsz F + 1 ≤ 1740) (hAn : ∀ w, A w → w < 170 * 4 + nn) : ∃ τ2, jx_r (jz β) jw_M (d + 1 + 1) 251 (0, [some (.ref 15), some (.int (Int32.ofInt (v))), some (.int (Int32.ofInt (1))), none, none, none], [], ml_mk h σ) (ml_mk h (τ2), .inl (some (.int (Int32.ofInt (170 * 4 + (nn + (0 + (fsz F : Int)))))))) ∧ mV τ2 (In (170 * 4 + nn) (170 * 4 + nn + fsz F + 1)) (In (170 * 4 + cc) (170 * 4 + cc + fsz F)) (170 * 4 + (nn + (0 + (fsz F : Int)))) (5, 0, [], []) (fl (kys F)) ∧ τ2 11 4 = nn + fsz F + 1 ∧ τ2 12 4 = cc + fsz F ∧ ldG σ τ2 (170 * 4 + nn) (170 * 4 + nn + fsz F + 1) (170 * 4 + cc) (170 * 4 + cc + fsz F) := by
  obtain ⟨a0, hN0, hF⟩ := hV
  obtain ⟨av0, av1⟩ := hA _ a0
  obtain ⟨τ', c5', r1, ⟨q1, q2, q3⟩, r3, r4⟩ := jn_mem1 (β := β) (d := d) (v := v) hl hA hB hn0 hAn F (σ 6 v) 0 σ [] none ⟨fun _ _ _ _ _ => rfl, fun _ _ => rfl, fun _ _ => rfl⟩ (by rw [e11]; omega) hF trivial rfl (by omega) (by omega)
  rw [List.nil_append] at r4
  obtain ⟨τ2, l1, l2, l3, l4, l5, l6, l7, l8⟩ := jn_listed (β := β) (d := d) hl (A := In (170 * 4 + nn) (170 * 4 + (nn + (0 + fsz F)))) (B := fun _ => False) (τ := τ') (m := 0 + (fsz F : Int)) (nn := nn + (0 + fsz F)) (cc := cc) r3 (by omega) (by omega) ((congrFun (q2 12 (by decide)) 4).trans e12) hc0 (by rw [kys_len]; omega) (by omega) (by omega) (fun z => by have := z.2; omega) (fun _ h => absurd h id) r4
  refine ⟨τ2, ?_, ?_, by rw [l3]; omega, by rw [l4]; omega, fun f v f1 f2 hv => ?_, fun f x f1 f2 hx => ?_, fun f hf => ?_, fun v hv => ?_⟩
  · skip
    refine jr_1 jm_251 (show jw_cd cd_251 0 = some (.iconst 0) by decide +kernel) rfl ?_
    refine jr_1 jm_251 (F2 := (2, [some (.ref 15), some (.int (Int32.ofInt (v))), some (.int (Int32.ofInt (1))), some (.int (Int32.ofInt (0))), none, none], [], ml_mk h σ)) (show jw_cd cd_251 1 = some (.istore_n 3) by decide +kernel) rfl ?_
    refine jr_1 jm_251 (show jw_cd cd_251 2 = some (.aload_n 0) by decide +kernel) rfl ?_
    refine jr_1 jm_251 (show jw_cd cd_251 3 = some (.getfield 23) by decide +kernel) (mg_a hl (a := 20) (show jw_fld 34 23 16 = some 6 by decide +kernel) (by decide) (by decide)) ?_
    refine jr_1 jm_251 (show jw_cd cd_251 6 = some (.iload_n 1) by decide +kernel) rfl ?_
    refine jr_1 jm_251 (show jw_cd cd_251 7 = some (.iaload) by decide +kernel) (ma_i hl (i := v) (e := σ 6 (v)) 6 (by omega) (by show _ < ((1740 : Nat) : Int); omega) rfl (by decide) (by decide) (by decide)) ?_
    refine jr_1 jm_251 (F2 := (10, [some (.ref 15), some (.int (Int32.ofInt (v))), some (.int (Int32.ofInt (1))), some (.int (Int32.ofInt (0))), some (.int (Int32.ofInt (σ 6 (v)))), none], [], ml_mk h σ)) (show jw_cd cd_251 8 = some (.istore 4) by decide +kernel) rfl ?_
    refine r1 _ ?_
    refine jr_1 jm_251 (show jw_cd cd_251 69 = some (.aload_n 0) by decide +kernel) rfl ?_
    refine jr_1 jm_251 (show jw_cd cd_251 70 = some (.iload_n 3) by decide +kernel) rfl ?_
    refine jr_c jm_251 (show jw_cd cd_251 71 = some (.invokevirtual 311) by decide +kernel) (mc_v hl (n := 1) (m2 := 252) (bs := [.int (Int32.ofInt (0 + (fsz F : Int)))]) (r := []) (show jw_find jw_cvT 34 311 = some (1, [(16, 252)]) by decide +kernel) (by decide) rfl rfl rfl) jm_252 ⟨Nat.le_of_ble_eq_true rfl, by decide⟩ l1 ?_
    exact jr_v jm_251 (show jw_cd cd_251 74 = some (.ireturn) by decide +kernel) rfl
  · refine mV_fr (fun _ _ _ _ _ => rfl) (fun _ _ _ _ _ => rfl) (fun w hw => ?_) (fun x hx => ?_) l2
    · rcases hw with hw | hw
      · exact ⟨hw.1, by have := hw.2; omega⟩
      · exact ⟨by omega, by omega⟩
    · rcases hx with hx | hx
      · exact absurd hx id
      · exact ⟨hx.1, by have := hx.2; omega⟩
  · rw [l5 f v f1 f2 (fun e => hv ⟨by omega, by omega⟩), q1 f v f1 f2 (fun z => hv ⟨z.1, by have := z.2; omega⟩)]
  · rw [l6 f x f1 f2 (fun z => hx ⟨z.1, by have := z.2; omega⟩), q2 f (by simp; omega)]
  · simp only [List.mem_cons, List.mem_nil_iff, or_false, not_or] at hf
    rw [l7 f (by simp; omega), q2 f (by simp; omega)]
  · rw [(l8 v hv).1, (l8 v hv).2, q3 v hv, q2 12 (by decide)]
    exact ⟨rfl, rfl⟩
theorem jn_turn {β : Bool} {d : Nat} {h : jx_H} {σ : mS} (hl : 49 ≤ h.length) {A B : Int → Prop} (hA : mIx A) (hB : mIx B) {v : Int} : ∀ (F : FT) (x m : Int) (τ : mS) (l : List (tI × FT)), mEq [43] σ τ → mF σ A B F x → qV σ A B (τ 43) m l → m = fsz F → m + l.length ≤ 400 → ∃ τ' : mS, (∀ res, jx_r (jz β) jw_M (d + 1 + 1) 253 (115, [some (.ref 15), some (.int (Int32.ofInt (v))), some (.int (Int32.ofInt (0))), some (.int (Int32.ofInt (-1))), none, none], [], ml_mk h τ') res → jx_r (jz β) jw_M (d + 1 + 1) 253 (85, [some (.ref 15), some (.int (Int32.ofInt (v))), some (.int (Int32.ofInt (m))), some (.int (Int32.ofInt (x))), none, none], [], ml_mk h τ) res) ∧ mEq [43] σ τ' ∧ qV σ A B (τ' 43) 0 ((sib F).reverse ++ l)
  | .leaf, x, m, τ, l, hq, hx, hG, hm, hs => by
    have hx : x = -1 := hx
    have hm : m = 0 := hm
    subst hx hm
    refine ⟨τ, fun res kk => ?_, hq, hG⟩
    refine jr_1 jm_253 (show jw_cd cd_253 85 = some (.iload_n 3) by decide +kernel) rfl ?_
    refine jr_1 jm_253 (show jw_cd cd_253 86 = some (.iconst (-1)) by decide +kernel) rfl ?_
    refine jr_1 jm_253 (show jw_cd cd_253 87 = some (.if_icmp .eq 28) by decide +kernel) (mb_t (q := .eq) (a := -1) (b := -1) (t := 115) (by show -1 = -1; omega) ⟨by omega, by omega⟩ ⟨by omega, by omega⟩ (by decide) (by decide)) ?_
    exact kk
  | .inner s0 i u0 c n, x, m, τ, l, hq, hx, hG, hm, hs => by
    obtain ⟨h1, h2, h3, h4, h5, h6⟩ := hx
    have hx := hB x h1
    have hv := hA _ h2
    have hm : m = ((fsz n + 1 : Nat) : Int) := hm
    have e6 : τ 6 = σ 6 := hq 6 (by decide)
    have e8 : τ 8 = σ 8 := hq 8 (by decide)
    have e10 : τ 10 = σ 10 := hq 10 (by decide)
    obtain ⟨τ', r1, r2, r3⟩ := jn_turn (β := β) (d := d) (v := v) hl hA hB n (σ 10 x) (m - 1) (su τ 43 (m - 1) (σ 8 (x))) ((i, c) :: l) (mEq_su hq (by decide)) h6 (by
      refine ⟨?_, ?_⟩
      · rw [su_eq]
        exact ⟨h2, h4, h5⟩
      · rw [show m - 1 + 1 = m by omega]
        exact qV_upd l m (fun j j1 j2 => su_ni (by omega)) hG) (by omega) (by simp; omega)
    refine ⟨τ', fun res kk => ?_, r2, ?_⟩
    · skip
      refine jr_1 jm_253 (show jw_cd cd_253 85 = some (.iload_n 3) by decide +kernel) rfl ?_
      refine jr_1 jm_253 (show jw_cd cd_253 86 = some (.iconst (-1)) by decide +kernel) rfl ?_
      refine jr_1 jm_253 (show jw_cd cd_253 87 = some (.if_icmp .eq 28) by decide +kernel) (mb_f (q := .eq) (a := x) (b := -1) (by show ¬ (x = -1); omega) ⟨by omega, by omega⟩ ⟨by omega, by omega⟩ (by decide)) ?_
      refine jr_1 jm_253 (F2 := (93, [some (.ref 15), some (.int (Int32.ofInt (v))), some (.int (Int32.ofInt (m - 1))), some (.int (Int32.ofInt (x))), none, none], [], ml_mk h τ)) (show jw_cd cd_253 90 = some (.iinc 2 (-1)) by decide +kernel) (mt_inc (a := m) (c := m - 1) rfl (by omega) rfl) ?_
      refine jr_1 jm_253 (show jw_cd cd_253 93 = some (.aload_n 0) by decide +kernel) rfl ?_
      refine jr_1 jm_253 (show jw_cd cd_253 94 = some (.getfield 101) by decide +kernel) (mg_a hl (a := 46) (show jw_fld 34 101 16 = some 43 by decide +kernel) (by decide) (by decide)) ?_
      refine jr_1 jm_253 (show jw_cd cd_253 97 = some (.iload_n 2) by decide +kernel) rfl ?_
      refine jr_1 jm_253 (show jw_cd cd_253 98 = some (.aload_n 0) by decide +kernel) rfl ?_
      refine jr_1 jm_253 (show jw_cd cd_253 99 = some (.getfield 29) by decide +kernel) (mg_a hl (a := 22) (show jw_fld 34 29 16 = some 8 by decide +kernel) (by decide) (by decide)) ?_
      refine jr_1 jm_253 (show jw_cd cd_253 102 = some (.iload_n 3) by decide +kernel) rfl ?_
      refine jr_1 jm_253 (show jw_cd cd_253 103 = some (.iaload) by decide +kernel) (ma_i hl (i := x) (e := σ 8 (x)) 8 (by omega) (by show _ < ((1740 : Nat) : Int); omega) (congrFun e8 _) (by decide) (by decide) (by decide)) ?_
      refine jr_1 jm_253 (show jw_cd cd_253 104 = some (.iastore) by decide +kernel) (ms_i hl (i := m - 1) (x := σ 8 (x)) 43 (by omega) (by show _ < ((400 : Nat) : Int); omega) (by decide) (by decide) (by decide)) ?_
      refine jr_1 jm_253 (show jw_cd cd_253 105 = some (.aload_n 0) by decide +kernel) rfl ?_
      refine jr_1 jm_253 (show jw_cd cd_253 106 = some (.getfield 35) by decide +kernel) (mg_a hl (a := 24) (show jw_fld 34 35 16 = some 10 by decide +kernel) (by decide) (by decide)) ?_
      refine jr_1 jm_253 (show jw_cd cd_253 109 = some (.iload_n 3) by decide +kernel) rfl ?_
      refine jr_1 jm_253 (show jw_cd cd_253 110 = some (.iaload) by decide +kernel) (ma_i hl (i := x) (e := σ 10 (x)) 10 (by omega) (by show _ < ((1740 : Nat) : Int); omega) ((su_nf (by decide)).trans (congrFun e10 _)) (by decide) (by decide) (by decide)) ?_
      refine jr_1 jm_253 (F2 := (112, [some (.ref 15), some (.int (Int32.ofInt (v))), some (.int (Int32.ofInt (m - 1))), some (.int (Int32.ofInt (σ 10 (x)))), none, none], [], ml_mk h (su τ 43 (m - 1) (σ 8 (x))))) (show jw_cd cd_253 111 = some (.istore_n 3) by decide +kernel) rfl ?_
      refine jr_1 jm_253 (show jw_cd cd_253 112 = some (.goto (-27)) by decide +kernel) (ju_go (t := 85) (by decide)) ?_
      exact r1 res kk
    · show qV σ A B (τ' 43) 0 (((i, c) :: sib n).reverse ++ l)
      rw [List.reverse_cons, List.append_assoc]
      exact r3
theorem jn_turnL {β : Bool} {d : Nat} {h : jx_H} {σ : mS} (hl : 49 ≤ h.length) {A B : Int → Prop} (hA : mIx A) (hB : mIx B) {v nn cc : Int} {i0 : tI} {F : FT} (hV : mV σ A B v i0 F) (e11 : σ 11 4 = nn) (hn0 : 0 ≤ nn) (e12 : σ 12 4 = cc) (hc0 : 0 ≤ cc) (hm4 : fsz F ≤ 400) (hc1 : 170 * 4 + cc + fsz F ≤ 1740) (hi0 : mr i0.1) (hk : ¬ i0.1 = 4) (hn1 : 170 * 4 + nn < 1740) (hAn : ¬ A (170 * 4 + nn)) (hBn : ∀ x, B x → ¬ In (170 * 4 + cc) (170 * 4 + cc + fsz F) x) : ∃ τ2, jx_r (jz β) jw_M (d + 1 + 1) 253 (0, [some (.ref 15), some (.int (Int32.ofInt (v))), none, none, none, none], [], ml_mk h σ) (ml_mk h (τ2), .inl (some (.int (Int32.ofInt (170 * 4 + nn))))) ∧ mV τ2 (fun v => A v ∨ v = 170 * 4 + nn) (fun x => B x ∨ In (170 * 4 + cc) (170 * 4 + cc + fsz F) x) (170 * 4 + nn) (5, 0, [], []) (fl (sib F).reverse) ∧ τ2 11 4 = nn + 1 ∧ τ2 12 4 = cc + fsz F ∧ ldG σ τ2 (170 * 4 + nn) (170 * 4 + nn + 1) (170 * 4 + cc) (170 * 4 + cc + fsz F) := by
  obtain ⟨a0, ⟨p3, p4, p5, p7⟩, hF⟩ := hV
  obtain ⟨av0, av1⟩ := hA _ a0
  obtain ⟨j1, j2⟩ := hi0
  obtain ⟨τ', r1, r2, r3⟩ := jn_turn (β := β) (d := d) (v := v) hl hA hB F (σ 6 v) (fsz F : Int) σ [] (mEq_refl _ _) hF trivial rfl (by simp; omega)
  rw [List.append_nil] at r3
  have p7b : τ' 7 v = (fsz F : Int) := (congrFun (r2 7 (by decide)) v).trans p7
  have r3' : qV τ' A B (τ' 43) 0 (sib F).reverse := qV_fr (fun f v f1 f2 _ => by rw [r2 f (by simp; omega)]) (fun f x f1 f2 _ => by rw [r2 f (by simp; omega)]) (fun _ h => h) (fun _ h => h) _ _ r3
  obtain ⟨τ2, l1, l2, l3, l4, l5, l6, l7, l8⟩ := jn_listed (β := β) (d := d) hl (A := A) (B := B) (τ := τ') (m := (fsz F : Int)) ((congrFun (r2 11 (by decide)) 4).trans e11) hn0 hn1 ((congrFun (r2 12 (by decide)) 4).trans e12) hc0 (by rw [List.length_reverse, sib_len]) (by omega) (by omega) hAn hBn r3'
  refine ⟨τ2, ?_, l2, l3, l4, fun f v f1 f2 hv => ?_, fun f x f1 f2 hx => ?_, fun f hf => ?_, fun v hv => ?_⟩
  · skip
    refine jr_1 jm_253 (show jw_cd cd_253 0 = some (.aload_n 0) by decide +kernel) rfl ?_
    refine jr_1 jm_253 (show jw_cd cd_253 1 = some (.getfield 13) by decide +kernel) (mg_a hl (a := 17) (show jw_fld 34 13 16 = some 3 by decide +kernel) (by decide) (by decide)) ?_
    refine jr_1 jm_253 (show jw_cd cd_253 4 = some (.iload_n 1) by decide +kernel) rfl ?_
    refine jr_1 jm_253 (show jw_cd cd_253 5 = some (.iaload) by decide +kernel) (ma_i hl (i := v) (e := i0.1) 3 (by omega) (by show _ < ((1740 : Nat) : Int); omega) p3 (by decide) (by decide) (by decide)) ?_
    refine jr_1 jm_253 (show jw_cd cd_253 6 = some (.iconst 4) by decide +kernel) rfl ?_
    refine jr_1 jm_253 (show jw_cd cd_253 7 = some (.if_icmp .ne 64) by decide +kernel) (mb_t (q := .ne) (a := i0.1) (b := 4) (t := 71) hk ⟨by omega, by omega⟩ ⟨by omega, by omega⟩ (by decide) (by decide)) ?_
    refine jr_1 jm_253 (show jw_cd cd_253 71 = some (.aload_n 0) by decide +kernel) rfl ?_
    refine jr_1 jm_253 (show jw_cd cd_253 72 = some (.getfield 26) by decide +kernel) (mg_a hl (a := 21) (show jw_fld 34 26 16 = some 7 by decide +kernel) (by decide) (by decide)) ?_
    refine jr_1 jm_253 (show jw_cd cd_253 75 = some (.iload_n 1) by decide +kernel) rfl ?_
    refine jr_1 jm_253 (show jw_cd cd_253 76 = some (.iaload) by decide +kernel) (ma_i hl (i := v) (e := (fsz F : Int)) 7 (by omega) (by show _ < ((1740 : Nat) : Int); omega) p7 (by decide) (by decide) (by decide)) ?_
    refine jr_1 jm_253 (F2 := (78, [some (.ref 15), some (.int (Int32.ofInt (v))), some (.int (Int32.ofInt ((fsz F : Int)))), none, none, none], [], ml_mk h σ)) (show jw_cd cd_253 77 = some (.istore_n 2) by decide +kernel) rfl ?_
    refine jr_1 jm_253 (show jw_cd cd_253 78 = some (.aload_n 0) by decide +kernel) rfl ?_
    refine jr_1 jm_253 (show jw_cd cd_253 79 = some (.getfield 23) by decide +kernel) (mg_a hl (a := 20) (show jw_fld 34 23 16 = some 6 by decide +kernel) (by decide) (by decide)) ?_
    refine jr_1 jm_253 (show jw_cd cd_253 82 = some (.iload_n 1) by decide +kernel) rfl ?_
    refine jr_1 jm_253 (show jw_cd cd_253 83 = some (.iaload) by decide +kernel) (ma_i hl (i := v) (e := σ 6 (v)) 6 (by omega) (by show _ < ((1740 : Nat) : Int); omega) rfl (by decide) (by decide) (by decide)) ?_
    refine jr_1 jm_253 (F2 := (85, [some (.ref 15), some (.int (Int32.ofInt (v))), some (.int (Int32.ofInt ((fsz F : Int)))), some (.int (Int32.ofInt (σ 6 (v)))), none, none], [], ml_mk h σ)) (show jw_cd cd_253 84 = some (.istore_n 3) by decide +kernel) rfl ?_
    refine r1 _ ?_
    refine jr_1 jm_253 (show jw_cd cd_253 115 = some (.aload_n 0) by decide +kernel) rfl ?_
    refine jr_1 jm_253 (show jw_cd cd_253 116 = some (.aload_n 0) by decide +kernel) rfl ?_
    refine jr_1 jm_253 (show jw_cd cd_253 117 = some (.getfield 26) by decide +kernel) (mg_a hl (a := 21) (show jw_fld 34 26 16 = some 7 by decide +kernel) (by decide) (by decide)) ?_
    refine jr_1 jm_253 (show jw_cd cd_253 120 = some (.iload_n 1) by decide +kernel) rfl ?_
    refine jr_1 jm_253 (show jw_cd cd_253 121 = some (.iaload) by decide +kernel) (ma_i hl (i := v) (e := (fsz F : Int)) 7 (by omega) (by show _ < ((1740 : Nat) : Int); omega) p7b (by decide) (by decide) (by decide)) ?_
    refine jr_c jm_253 (show jw_cd cd_253 122 = some (.invokevirtual 311) by decide +kernel) (mc_v hl (n := 1) (m2 := 252) (bs := [.int (Int32.ofInt ((fsz F : Int)))]) (r := []) (show jw_find jw_cvT 34 311 = some (1, [(16, 252)]) by decide +kernel) (by decide) rfl rfl rfl) jm_252 ⟨Nat.le_of_ble_eq_true rfl, by decide⟩ l1 ?_
    exact jr_v jm_253 (show jw_cd cd_253 125 = some (.ireturn) by decide +kernel) rfl
  · rw [l5 f v f1 f2 (fun e => hv ⟨by omega, by omega⟩), r2 f (by simp; omega)]
  · rw [l6 f x f1 f2 hx, r2 f (by simp; omega)]
  · simp only [List.mem_cons, List.mem_nil_iff, or_false, not_or] at hf
    rw [l7 f (by simp; omega), r2 f (by simp; omega)]
  · rw [(l8 v hv).1, (l8 v hv).2, r2 11 (by decide), r2 12 (by decide)]
    exact ⟨rfl, rfl⟩
theorem jn_turnT_loop {β : Bool} {d : Nat} {h : jx_H} {σ : mS} (hl : 49 ≤ h.length) {v : Int} (hv : 0 ≤ v ∧ v < 1740) {s : List Int} (hs : tx s) (p5 : σ 5 v = pk s) {res : jx_R} (kk : jx_r (jz β) jw_M (d + 1) 253 (62, [some (.ref 15), some (.int (Int32.ofInt (v))), some (.long (Int64.ofInt (pk s.reverse))), none, some (.int (Int32.ofInt ((s.length : Int)))), some (.int (Int32.ofInt ((s.length : Int))))], [], ml_mk h σ) res) : ∀ (r j : Nat), j + r = s.length → jx_r (jz β) jw_M (d + 1) 253 (26, [some (.ref 15), some (.int (Int32.ofInt (v))), some (.long (Int64.ofInt (pk (s.reverse.take j)))), none, some (.int (Int32.ofInt ((s.length : Int)))), some (.int (Int32.ofInt ((j : Int))))], [], ml_mk h σ) res := by
  have h7 := hs.1
  obtain ⟨v0, v1⟩ := hv
  intro r
  induction r with
  | zero =>
    intro j hj
    obtain rfl : j = s.length := by omega
    have e : s.reverse.take s.length = s.reverse := by rw [← List.length_reverse, List.take_length]
    rw [e]
    refine jr_1 jm_253 (show jw_cd cd_253 26 = some (.iload 5) by decide +kernel) rfl ?_
    refine jr_1 jm_253 (show jw_cd cd_253 28 = some (.iload 4) by decide +kernel) rfl ?_
    refine jr_1 jm_253 (show jw_cd cd_253 30 = some (.if_icmp .ge 32) by decide +kernel) (mb_t (q := .ge) (a := (s.length : Int)) (b := (s.length : Int)) (t := 62) (by show (s.length : Int) ≤ (s.length : Int); omega) ⟨by omega, by omega⟩ ⟨by omega, by omega⟩ (by decide) (by decide)) ?_
    exact kk
  | succ r ih =>
    intro j hj
    have hlt : j < s.reverse.length := by rw [List.length_reverse]; omega
    have hlt2 : s.length - 1 - j < s.length := by omega
    have ex : ((s.length : Int) - 1 - (j : Int)).toNat = s.length - 1 - j := by omega
    have hcc : s.getD ((s.length : Int) - 1 - (j : Int)).toNat 0 = s.reverse[j] := by
      rw [ex, List.getD_eq_getElem?_getD, List.getElem?_eq_getElem hlt2, List.getElem_reverse]
      rfl
    have hcr : 0 ≤ s.getD ((s.length : Int) - 1 - (j : Int)).toNat 0 ∧ s.getD ((s.length : Int) - 1 - (j : Int)).toNat 0 < 128 := by
      rw [hcc]
      have := hs.2 _ (List.mem_reverse.mp (List.getElem_mem hlt))
      omega
    have et : s.reverse.take j ++ [s.getD ((s.length : Int) - 1 - (j : Int)).toNat 0] = s.reverse.take (j + 1) := by
      rw [hcc, List.take_succ_eq_append_getElem hlt]
    refine jr_1 jm_253 (show jw_cd cd_253 26 = some (.iload 5) by decide +kernel) rfl ?_
    refine jr_1 jm_253 (show jw_cd cd_253 28 = some (.iload 4) by decide +kernel) rfl ?_
    refine jr_1 jm_253 (show jw_cd cd_253 30 = some (.if_icmp .ge 32) by decide +kernel) (mb_f (q := .ge) (a := (j : Int)) (b := (s.length : Int)) (by show ¬ ((s.length : Int) ≤ (j : Int)); omega) ⟨by omega, by omega⟩ ⟨by omega, by omega⟩ (by decide)) ?_
    refine jr_1 jm_253 (show jw_cd cd_253 33 = some (.lload_n 2) by decide +kernel) rfl ?_
    refine jr_1 jm_253 (show jw_cd cd_253 34 = some (.iload 5) by decide +kernel) rfl ?_
    refine jr_1 jm_253 (show jw_cd cd_253 36 = some (.aload_n 0) by decide +kernel) rfl ?_
    refine jr_1 jm_253 (show jw_cd cd_253 37 = some (.getfield 19) by decide +kernel) (mg_a hl (a := 19) (show jw_fld 34 19 16 = some 5 by decide +kernel) (by decide) (by decide)) ?_
    refine jr_1 jm_253 (show jw_cd cd_253 40 = some (.iload_n 1) by decide +kernel) rfl ?_
    refine jr_1 jm_253 (show jw_cd cd_253 41 = some (.laload) by decide +kernel) (ma_j hl (i := v) (e := pk s) 5 (by omega) (by show _ < ((1740 : Nat) : Int); omega) p5 (by decide) (by decide) (by decide)) ?_
    refine jr_1 jm_253 (show jw_cd cd_253 42 = some (.iload 4) by decide +kernel) rfl ?_
    refine jr_1 jm_253 (show jw_cd cd_253 44 = some (.iconst 1) by decide +kernel) rfl ?_
    refine jr_1 jm_253 (show jw_cd cd_253 45 = some (.isub) by decide +kernel) (mt_sub (c := (s.length : Int) - 1) rfl) ?_
    refine jr_1 jm_253 (show jw_cd cd_253 46 = some (.iload 5) by decide +kernel) rfl ?_
    refine jr_1 jm_253 (show jw_cd cd_253 48 = some (.isub) by decide +kernel) (mt_sub (c := (s.length : Int) - 1 - ((j : Int))) rfl) ?_
    refine jr_c jm_253 (show jw_cd cd_253 49 = some (.invokestatic 138) by decide +kernel) (mc_s (n := 2) (m2 := 250) (bs := [.long (Int64.ofInt (pk s)), .int (Int32.ofInt ((s.length : Int) - 1 - ((j : Int))))]) (r := [.int (Int32.ofInt ((j : Int))), .long (Int64.ofInt (pk (s.reverse.take j)))]) (by decide) (show jw_find jw_csT 34 138 = some (250, 2) by decide +kernel) rfl rfl rfl) jm_250 ⟨Nat.le_of_ble_eq_true rfl, by decide⟩ (jn_charAt hl hs ⟨by omega, by omega⟩) ?_
    refine jr_c jm_253 (show jw_cd cd_253 52 = some (.invokestatic 166) by decide +kernel) (mc_s (n := 3) (m2 := 220) (bs := [.long (Int64.ofInt (pk (s.reverse.take j))), .int (Int32.ofInt ((j : Int))), .int (Int32.ofInt (s.getD ((s.length : Int) - 1 - (j : Int)).toNat 0))]) (r := []) (by decide) (show jw_find jw_csT 34 166 = some (220, 3) by decide +kernel) rfl rfl rfl) jm_220 ⟨Nat.le_of_ble_eq_true rfl, by decide⟩ (jn_with hl (l := s.reverse.take j) (by simp; omega) (by simp; omega) hcr) ?_
    refine jr_1 jm_253 (F2 := (56, [some (.ref 15), some (.int (Int32.ofInt (v))), some (.long (Int64.ofInt (pk (s.reverse.take j ++ [s.getD ((s.length : Int) - 1 - (j : Int)).toNat 0])))), none, some (.int (Int32.ofInt ((s.length : Int)))), some (.int (Int32.ofInt ((j : Int))))], [], ml_mk h σ)) (show jw_cd cd_253 55 = some (.lstore_n 2) by decide +kernel) rfl ?_
    refine jr_1 jm_253 (F2 := (59, [some (.ref 15), some (.int (Int32.ofInt (v))), some (.long (Int64.ofInt (pk (s.reverse.take j ++ [s.getD ((s.length : Int) - 1 - (j : Int)).toNat 0])))), none, some (.int (Int32.ofInt ((s.length : Int)))), some (.int (Int32.ofInt ((j : Int) + 1)))], [], ml_mk h σ)) (show jw_cd cd_253 56 = some (.iinc 5 1) by decide +kernel) (mt_inc (a := (j : Int)) (c := (j : Int) + 1) rfl (by omega) rfl) ?_
    refine jr_1 jm_253 (show jw_cd cd_253 59 = some (.goto (-33)) by decide +kernel) (ju_go (t := 26) (by decide)) ?_
    rw [et, show (j : Int) + 1 = ((j + 1 : Nat) : Int) by omega]
    exact ih (j + 1) (by omega)
theorem jn_turnT {β : Bool} {d : Nat} {h : jx_H} {σ : mS} (hl : 49 ≤ h.length) {A B : Int → Prop} (hA : mIx A) {v nn : Int} {i0 : tI} {F : FT} (hV : mV σ A B v i0 F) (hk : i0.1 = 4) (hs : tx i0.2.2.1) (e11 : σ 11 4 = nn) (hn0 : 0 ≤ nn) (hn1 : 170 * 4 + nn < 1740) : jx_r (jz β) jw_M (d + 1 + 1) 253 (0, [some (.ref 15), some (.int (Int32.ofInt (v))), none, none, none, none], [], ml_mk h σ) (ml_mk h (mNode σ 4 4 0 (pk i0.2.2.1.reverse)), .inl (some (.int (Int32.ofInt (170 * 4 + nn))))) := by
  obtain ⟨a0, ⟨p3, p4, p5, p7⟩, hF⟩ := hV
  obtain ⟨av0, av1⟩ := hA _ a0
  refine jr_1 jm_253 (show jw_cd cd_253 0 = some (.aload_n 0) by decide +kernel) rfl ?_
  refine jr_1 jm_253 (show jw_cd cd_253 1 = some (.getfield 13) by decide +kernel) (mg_a hl (a := 17) (show jw_fld 34 13 16 = some 3 by decide +kernel) (by decide) (by decide)) ?_
  refine jr_1 jm_253 (show jw_cd cd_253 4 = some (.iload_n 1) by decide +kernel) rfl ?_
  refine jr_1 jm_253 (show jw_cd cd_253 5 = some (.iaload) by decide +kernel) (ma_i hl (i := v) (e := i0.1) 3 (by omega) (by show _ < ((1740 : Nat) : Int); omega) p3 (by decide) (by decide) (by decide)) ?_
  refine jr_1 jm_253 (show jw_cd cd_253 6 = some (.iconst 4) by decide +kernel) rfl ?_
  refine jr_1 jm_253 (show jw_cd cd_253 7 = some (.if_icmp .ne 64) by decide +kernel) (mb_f (q := .ne) (a := i0.1) (b := 4) (fun z => z hk) ⟨by omega, by omega⟩ ⟨by omega, by omega⟩ (by decide)) ?_
  refine jr_1 jm_253 (F2 := (11, [some (.ref 15), some (.int (Int32.ofInt (v))), none, none, none, none], [.long (Int64.ofInt (0))], ml_mk h σ)) (show jw_cd cd_253 10 = some (.lconst 0) by decide +kernel) rfl ?_
  refine jr_1 jm_253 (F2 := (12, [some (.ref 15), some (.int (Int32.ofInt (v))), some (.long (Int64.ofInt (0))), none, none, none], [], ml_mk h σ)) (show jw_cd cd_253 11 = some (.lstore_n 2) by decide +kernel) rfl ?_
  refine jr_1 jm_253 (show jw_cd cd_253 12 = some (.aload_n 0) by decide +kernel) rfl ?_
  refine jr_1 jm_253 (show jw_cd cd_253 13 = some (.getfield 19) by decide +kernel) (mg_a hl (a := 19) (show jw_fld 34 19 16 = some 5 by decide +kernel) (by decide) (by decide)) ?_
  refine jr_1 jm_253 (show jw_cd cd_253 16 = some (.iload_n 1) by decide +kernel) rfl ?_
  refine jr_1 jm_253 (show jw_cd cd_253 17 = some (.laload) by decide +kernel) (ma_j hl (i := v) (e := pk i0.2.2.1) 5 (by omega) (by show _ < ((1740 : Nat) : Int); omega) p5 (by decide) (by decide) (by decide)) ?_
  refine jr_c jm_253 (show jw_cd cd_253 18 = some (.invokestatic 314) by decide +kernel) (mc_s (n := 1) (m2 := 249) (bs := [.long (Int64.ofInt (pk i0.2.2.1))]) (r := []) (by decide) (show jw_find jw_csT 34 314 = some (249, 1) by decide +kernel) rfl rfl rfl) jm_249 ⟨Nat.le_of_ble_eq_true rfl, by decide⟩ (jn_lengthOf hl hs) ?_
  refine jr_1 jm_253 (F2 := (23, [some (.ref 15), some (.int (Int32.ofInt (v))), some (.long (Int64.ofInt (0))), none, some (.int (Int32.ofInt ((i0.2.2.1.length : Int)))), none], [], ml_mk h σ)) (show jw_cd cd_253 21 = some (.istore 4) by decide +kernel) rfl ?_
  refine jr_1 jm_253 (show jw_cd cd_253 23 = some (.iconst 0) by decide +kernel) rfl ?_
  refine jr_1 jm_253 (F2 := (26, [some (.ref 15), some (.int (Int32.ofInt (v))), some (.long (Int64.ofInt (0))), none, some (.int (Int32.ofInt ((i0.2.2.1.length : Int)))), some (.int (Int32.ofInt (0)))], [], ml_mk h σ)) (show jw_cd cd_253 24 = some (.istore 5) by decide +kernel) rfl ?_
  rw [show (Int64.ofInt (0)) = Int64.ofInt (pk (i0.2.2.1.reverse.take 0)) from rfl, show (Int32.ofInt (0)) = Int32.ofInt ((0 : Nat) : Int) from rfl]
  refine jn_turnT_loop hl ⟨av0, av1⟩ hs p5 (d := d + 1) ?_ i0.2.2.1.length 0 (by omega)
  refine jr_1 jm_253 (show jw_cd cd_253 62 = some (.aload_n 0) by decide +kernel) rfl ?_
  refine jr_1 jm_253 (show jw_cd cd_253 63 = some (.iconst 4) by decide +kernel) rfl ?_
  refine jr_1 jm_253 (show jw_cd cd_253 64 = some (.iconst 4) by decide +kernel) rfl ?_
  refine jr_1 jm_253 (show jw_cd cd_253 65 = some (.iconst 0) by decide +kernel) rfl ?_
  refine jr_1 jm_253 (show jw_cd cd_253 66 = some (.lload_n 2) by decide +kernel) rfl ?_
  refine jr_c jm_253 (show jw_cd cd_253 67 = some (.invokevirtual 110) by decide +kernel) (mc_v hl (n := 4) (m2 := 208) (bs := [.int (Int32.ofInt (4)), .int (Int32.ofInt (4)), .int (Int32.ofInt (0)), .long (Int64.ofInt (pk i0.2.2.1.reverse))]) (r := []) (show jw_find jw_cvT 34 110 = some (4, [(16, 208)]) by decide +kernel) (by decide) rfl rfl rfl) jm_208 ⟨Nat.le_of_ble_eq_true rfl, by decide⟩ (jn_nodeM hl ⟨by decide, by decide⟩ (m := nn) e11 hn0 hn1) ?_
  exact jr_v jm_253 (show jw_cd cd_253 70 = some (.ireturn) by decide +kernel) rfl

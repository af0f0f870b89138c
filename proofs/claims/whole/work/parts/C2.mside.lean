/-! ===== the model's same, isNull, sideOf (printed by program: gen45.py) ===== -/
theorem jn_same {β : Bool} {d : Nat} {h : jx_H} {σ : mS} (hl : 49 ≤ h.length) {A B : Int → Prop} (hA : mIx A) (hB : mIx B) {a b : Int} {i j : tI} {F E : FT} (hV : mV σ A B a i F) (hW : mV σ A B b j E) (hi : iok i) (hj : iok j) (hF : fwf F) (hE : fwf E) (hcF : fct F ≤ 390) (hcE : fct E ≤ 1740) : ∃ τ', jx_r (jz β) jw_M (d + 1) 272 (0, [some (.ref 15), some (.int (Int32.ofInt (a))), some (.int (Int32.ofInt (b))), none, none, none, none, none, none, none], [], ml_mk h σ) (ml_mk h (τ'), .inl (some (.int (Int32.ofInt (if pS ((i, F), (j, E)) = true then 1 else 0))))) ∧ mEq [43, 44] σ τ' := by
  have hq : mEq [43, 44] σ (su (su σ 43 (0) (a)) 44 (0) (b)) := mEq_su (mEq_su (mEq_refl _ _) (by decide)) (by decide)
  obtain ⟨av0, av1⟩ := hA _ hV.1
  obtain ⟨aw0, aw1⟩ := hA _ hW.1
  obtain ⟨τ', r1, r2⟩ := jn_sm_out (β := β) (d := d) (a := a) (b := b) hl hA hB (1 + (fct F + 0)) [((i, F), (j, E))] 0 1 (su (su σ 43 (0) (a)) 44 (0) (b)) none none none none none rfl (fun p hp => by
    rcases List.mem_cons.mp hp with rfl | hp
    · exact ⟨⟨hi, hF, hj, hE⟩, hcE⟩
    · exact absurd hp List.not_mem_nil) hq ⟨⟨by rw [show (su (su σ 43 (0) (a)) 44 (0) (b)) 43 0 = a from (su_nf (by decide)).trans (su_eq _ _ _ _)]; exact hV, by rw [show (su (su σ 43 (0) (a)) 44 (0) (b)) 44 0 = b from su_eq _ _ _ _]; exact hW⟩, trivial⟩ rfl (by omega) (by show (1 : Int) + ((fct F + 0 : Nat) : Int) ≤ 400; omega)
  refine ⟨τ', ?_, r2⟩
  rw [List.all_cons, List.all_nil, Bool.and_true] at r1
  refine jr_1 jm_272 (show jw_cd cd_272 0 = some (.aload_n 0) by decide +kernel) rfl ?_
  refine jr_1 jm_272 (show jw_cd cd_272 1 = some (.getfield 101) by decide +kernel) (mg_a hl (a := 46) (show jw_fld 34 101 16 = some 43 by decide +kernel) (by decide) (by decide)) ?_
  refine jr_1 jm_272 (show jw_cd cd_272 4 = some (.iconst 0) by decide +kernel) rfl ?_
  refine jr_1 jm_272 (show jw_cd cd_272 5 = some (.iload_n 1) by decide +kernel) rfl ?_
  refine jr_1 jm_272 (show jw_cd cd_272 6 = some (.iastore) by decide +kernel) (ms_i hl (i := 0) (x := a) 43 (by omega) (by show _ < ((400 : Nat) : Int); omega) (by decide) (by decide) (by decide)) ?_
  refine jr_1 jm_272 (show jw_cd cd_272 7 = some (.aload_n 0) by decide +kernel) rfl ?_
  refine jr_1 jm_272 (show jw_cd cd_272 8 = some (.getfield 104) by decide +kernel) (mg_a hl (a := 47) (show jw_fld 34 104 16 = some 44 by decide +kernel) (by decide) (by decide)) ?_
  refine jr_1 jm_272 (show jw_cd cd_272 11 = some (.iconst 0) by decide +kernel) rfl ?_
  refine jr_1 jm_272 (show jw_cd cd_272 12 = some (.iload_n 2) by decide +kernel) rfl ?_
  refine jr_1 jm_272 (show jw_cd cd_272 13 = some (.iastore) by decide +kernel) (ms_i hl (i := 0) (x := b) 44 (by omega) (by show _ < ((400 : Nat) : Int); omega) (by decide) (by decide) (by decide)) ?_
  refine jr_1 jm_272 (show jw_cd cd_272 14 = some (.iconst 1) by decide +kernel) rfl ?_
  refine jr_1 jm_272 (F2 := (16, [some (.ref 15), some (.int (Int32.ofInt (a))), some (.int (Int32.ofInt (b))), some (.int (Int32.ofInt (1))), none, none, none, none, none, none], [], ml_mk h (su (su σ 43 (0) (a)) 44 (0) (b)))) (show jw_cd cd_272 15 = some (.istore_n 3) by decide +kernel) rfl ?_
  refine jr_1 jm_272 (show jw_cd cd_272 16 = some (.iconst 0) by decide +kernel) rfl ?_
  refine jr_1 jm_272 (F2 := (19, [some (.ref 15), some (.int (Int32.ofInt (a))), some (.int (Int32.ofInt (b))), some (.int (Int32.ofInt (1))), some (.int (Int32.ofInt (0))), none, none, none, none, none], [], ml_mk h (su (su σ 43 (0) (a)) 44 (0) (b)))) (show jw_cd cd_272 17 = some (.istore 4) by decide +kernel) rfl ?_
  exact r1
def nulO : Option (tI × FT) → Bool
  | none => true
  | some (i, _) => decide (i.1 = 0)
theorem jn_isNull {β : Bool} {d : Nat} {h : jx_H} {σ : mS} (hl : 49 ≤ h.length) {A B : Int → Prop} (hA : mIx A) {w : Int} {x : Option (tI × FT)} (hO : mO σ A B w x) (hok : ∀ i F, x = some (i, F) → iok i) : jx_r (jz β) jw_M (d) 263 (0, [some (.ref 15), some (.int (Int32.ofInt (w)))], [], ml_mk h σ) (ml_mk h (σ), .inl (some (.int (Int32.ofInt (if nulO x = true then 1 else 0))))) := by
  cases x with
  | none =>
    obtain rfl : w = -1 := hO
    rw [show (if nulO none = true then (1 : Int) else 0) = 1 from rfl]
    refine jr_1 jm_263 (show jw_cd cd_263 0 = some (.iload_n 1) by decide +kernel) rfl ?_
    refine jr_1 jm_263 (show jw_cd cd_263 1 = some (.iconst (-1)) by decide +kernel) rfl ?_
    refine jr_1 jm_263 (show jw_cd cd_263 2 = some (.if_icmp .eq 12) by decide +kernel) (mb_t (q := .eq) (a := -1) (b := -1) (t := 14) (by show -1 = -1; omega) ⟨by omega, by omega⟩ ⟨by omega, by omega⟩ (by decide) (by decide)) ?_
    refine jr_1 jm_263 (show jw_cd cd_263 14 = some (.iconst 1) by decide +kernel) rfl ?_
    refine jr_1 jm_263 (show jw_cd cd_263 15 = some (.goto 4) by decide +kernel) (ju_go (t := 19) (by decide)) ?_
    exact jr_v jm_263 (show jw_cd cd_263 19 = some (.ireturn) by decide +kernel) rfl
  | some y =>
    obtain ⟨i, F⟩ := y
    obtain ⟨a1, ⟨n3, -⟩, -⟩ := hO
    obtain ⟨w0, w1⟩ := hA _ a1
    obtain ⟨i1, i2, -⟩ := hok i F rfl
    refine jr_1 jm_263 (show jw_cd cd_263 0 = some (.iload_n 1) by decide +kernel) rfl ?_
    refine jr_1 jm_263 (show jw_cd cd_263 1 = some (.iconst (-1)) by decide +kernel) rfl ?_
    refine jr_1 jm_263 (show jw_cd cd_263 2 = some (.if_icmp .eq 12) by decide +kernel) (mb_f (q := .eq) (a := w) (b := -1) (fun (z : w = -1) => by omega) ⟨by omega, by omega⟩ ⟨by omega, by omega⟩ (by decide)) ?_
    refine jr_1 jm_263 (show jw_cd cd_263 5 = some (.aload_n 0) by decide +kernel) rfl ?_
    refine jr_1 jm_263 (show jw_cd cd_263 6 = some (.getfield 13) by decide +kernel) (mg_a hl (a := 17) (show jw_fld 34 13 16 = some 3 by decide +kernel) (by decide) (by decide)) ?_
    refine jr_1 jm_263 (show jw_cd cd_263 9 = some (.iload_n 1) by decide +kernel) rfl ?_
    refine jr_1 jm_263 (show jw_cd cd_263 10 = some (.iaload) by decide +kernel) (ma_i hl (i := w) (e := i.1) 3 (by omega) (by show _ < ((1740 : Nat) : Int); omega) n3 (by decide) (by decide) (by decide)) ?_
    by_cases h0 : i.1 = 0
    · rw [if_pos (show nulO (some (i, F)) = true from decide_eq_true h0)]
      refine jr_1 jm_263 (show jw_cd cd_263 11 = some (.ifCond .ne 7) by decide +kernel) (mz_f (q := .ne) (a := i.1) (by show ¬ (¬ (i.1 = 0)); omega) ⟨by omega, by omega⟩ (by decide)) ?_
      refine jr_1 jm_263 (show jw_cd cd_263 14 = some (.iconst 1) by decide +kernel) rfl ?_
      refine jr_1 jm_263 (show jw_cd cd_263 15 = some (.goto 4) by decide +kernel) (ju_go (t := 19) (by decide)) ?_
      exact jr_v jm_263 (show jw_cd cd_263 19 = some (.ireturn) by decide +kernel) rfl
    · rw [if_neg (show ¬ nulO (some (i, F)) = true from fun z => h0 (of_decide_eq_true z))]
      refine jr_1 jm_263 (show jw_cd cd_263 11 = some (.ifCond .ne 7) by decide +kernel) (mz_t (q := .ne) (a := i.1) (t := 18) (by show ¬ (i.1 = 0); omega) ⟨by omega, by omega⟩ (by decide) (by decide)) ?_
      refine jr_1 jm_263 (show jw_cd cd_263 18 = some (.iconst 0) by decide +kernel) rfl ?_
      exact jr_v jm_263 (show jw_cd cd_263 19 = some (.ireturn) by decide +kernel) rfl
/-- what keys one after the other find -/
def vpath : List (List Int) → Option (tI × FT) → Option (tI × FT)
  | [], x => x
  | _ :: _, none => none
  | s :: l, some y => vpath l (vget s y.1 y.2)
theorem vpath_none : ∀ l : List (List Int), vpath l none = none
  | [] => rfl
  | _ :: _ => rfl
/-- the keys of a side, from the t-th on -/
def pthR (σ : mS) (dd : Int) : Int → List (List Int) → Prop
  | _, [] => True
  | t, s :: l => (σ 25 (3 * dd + t) = pk s ∧ tx s) ∧ pthR σ dd (t + 1) l
theorem jn_path {β : Bool} {d : Nat} {h : jx_H} {σ : mS} (hl : 49 ≤ h.length) {A B : Int → Prop} (hA : mIx A) (hB : mIx B) {dd e n : Int} (hd : 0 ≤ dd ∧ dd < 288) (e24 : σ 24 dd = n) (hn : 0 ≤ n ∧ n ≤ 3) : ∀ (l : List (List Int)) (t w : Int) (x : Option (tI × FT)), mO σ A B w x → (∀ i F, x = some (i, F) → iok i ∧ fwf F) → pthR σ dd t l → t + l.length = n → 0 ≤ t → ∃ w2, jx_r (jz β) jw_M (d + 1) 271 (53, [some (.ref 15), some (.int (Int32.ofInt (dd))), some (.int (Int32.ofInt (e))), some (.int (Int32.ofInt (w))), some (.int (Int32.ofInt (t)))], [], ml_mk h σ) (ml_mk h (σ), .inl (some (.int (Int32.ofInt (w2))))) ∧ mO σ A B w2 (vpath l x) ∧ (∀ i F, vpath l x = some (i, F) → iok i ∧ fwf F)
  | [], t, w, x, hO, hok, hp, ht, ht0 => by
    obtain ⟨n0, n3⟩ := hn
    obtain ⟨d0, d1⟩ := hd
    have ht : t = n := by simp at ht; exact ht
    refine ⟨w, ?_, hO, hok⟩
    refine jr_1 jm_271 (show jw_cd cd_271 53 = some (.iload 4) by decide +kernel) rfl ?_
    refine jr_1 jm_271 (show jw_cd cd_271 55 = some (.aload_n 0) by decide +kernel) rfl ?_
    refine jr_1 jm_271 (show jw_cd cd_271 56 = some (.getfield 68) by decide +kernel) (mg_a hl (a := 35) (show jw_fld 34 68 16 = some 24 by decide +kernel) (by decide) (by decide)) ?_
    refine jr_1 jm_271 (show jw_cd cd_271 59 = some (.iload_n 1) by decide +kernel) rfl ?_
    refine jr_1 jm_271 (show jw_cd cd_271 60 = some (.iaload) by decide +kernel) (ma_i hl (i := dd) (e := n) 24 (by omega) (by show _ < ((288 : Nat) : Int); omega) e24 (by decide) (by decide) (by decide)) ?_
    refine jr_1 jm_271 (show jw_cd cd_271 61 = some (.if_icmp .ge 31) by decide +kernel) (mb_t (q := .ge) (a := t) (b := n) (t := 92) (by show n ≤ t; omega) ⟨by omega, by omega⟩ ⟨by omega, by omega⟩ (by decide) (by decide)) ?_
    refine jr_1 jm_271 (show jw_cd cd_271 92 = some (.iload_n 3) by decide +kernel) rfl ?_
    exact jr_v jm_271 (show jw_cd cd_271 93 = some (.ireturn) by decide +kernel) rfl
  | s :: l, t, w, none, hO, hok, hp, ht, ht0 => by
    obtain ⟨n0, n3⟩ := hn
    obtain ⟨d0, d1⟩ := hd
    have hlen : (((s :: l).length : Nat) : Int) = l.length + 1 := by simp
    rw [hlen] at ht
    obtain rfl : w = -1 := hO
    refine ⟨-1, ?_, rfl, fun i F h => (by cases h)⟩
    refine jr_1 jm_271 (show jw_cd cd_271 53 = some (.iload 4) by decide +kernel) rfl ?_
    refine jr_1 jm_271 (show jw_cd cd_271 55 = some (.aload_n 0) by decide +kernel) rfl ?_
    refine jr_1 jm_271 (show jw_cd cd_271 56 = some (.getfield 68) by decide +kernel) (mg_a hl (a := 35) (show jw_fld 34 68 16 = some 24 by decide +kernel) (by decide) (by decide)) ?_
    refine jr_1 jm_271 (show jw_cd cd_271 59 = some (.iload_n 1) by decide +kernel) rfl ?_
    refine jr_1 jm_271 (show jw_cd cd_271 60 = some (.iaload) by decide +kernel) (ma_i hl (i := dd) (e := n) 24 (by omega) (by show _ < ((288 : Nat) : Int); omega) e24 (by decide) (by decide) (by decide)) ?_
    refine jr_1 jm_271 (show jw_cd cd_271 61 = some (.if_icmp .ge 31) by decide +kernel) (mb_f (q := .ge) (a := t) (b := n) (by show ¬ (n ≤ t); omega) ⟨by omega, by omega⟩ ⟨by omega, by omega⟩ (by decide)) ?_
    refine jr_1 jm_271 (show jw_cd cd_271 64 = some (.iload_n 3) by decide +kernel) rfl ?_
    refine jr_1 jm_271 (show jw_cd cd_271 65 = some (.iconst (-1)) by decide +kernel) rfl ?_
    refine jr_1 jm_271 (show jw_cd cd_271 66 = some (.if_icmp .eq 26) by decide +kernel) (mb_t (q := .eq) (a := -1) (b := -1) (t := 92) (by show -1 = -1; omega) ⟨by omega, by omega⟩ ⟨by omega, by omega⟩ (by decide) (by decide)) ?_
    refine jr_1 jm_271 (show jw_cd cd_271 92 = some (.iload_n 3) by decide +kernel) rfl ?_
    exact jr_v jm_271 (show jw_cd cd_271 93 = some (.ireturn) by decide +kernel) rfl
  | s :: l, t, w, some y, hO, hok, hp, ht, ht0 => by
    obtain ⟨n0, n3⟩ := hn
    obtain ⟨d0, d1⟩ := hd
    have hlen : (((s :: l).length : Nat) : Int) = l.length + 1 := by simp
    rw [hlen] at ht
    obtain ⟨i, F⟩ := y
    obtain ⟨hi, hF⟩ := hok i F rfl
    obtain ⟨⟨p25, hs⟩, hp2⟩ := hp
    have hV : mV σ A B w i F := hO
    obtain ⟨w0, w1⟩ := hA _ hV.1
    obtain ⟨w', r1, r2⟩ := jn_child (β := β) (d := d) hl hA hB hs ⟨by have := hi.1; omega, by have := hi.2.1; omega⟩ (fwf_ok F hF) hV
    obtain ⟨w2, z1, z2, z3⟩ := jn_path (β := β) (d := d) (e := e) hl hA hB ⟨d0, d1⟩ e24 ⟨n0, n3⟩ l (t + 1) w' (vget s i F) r2 (fun j E h => by
      unfold vget at h
      split at h
      · exact fget_ok F j E hF h
      · cases h) hp2 (by omega) (by omega)
    refine ⟨w2, ?_, z2, z3⟩
    refine jr_1 jm_271 (show jw_cd cd_271 53 = some (.iload 4) by decide +kernel) rfl ?_
    refine jr_1 jm_271 (show jw_cd cd_271 55 = some (.aload_n 0) by decide +kernel) rfl ?_
    refine jr_1 jm_271 (show jw_cd cd_271 56 = some (.getfield 68) by decide +kernel) (mg_a hl (a := 35) (show jw_fld 34 68 16 = some 24 by decide +kernel) (by decide) (by decide)) ?_
    refine jr_1 jm_271 (show jw_cd cd_271 59 = some (.iload_n 1) by decide +kernel) rfl ?_
    refine jr_1 jm_271 (show jw_cd cd_271 60 = some (.iaload) by decide +kernel) (ma_i hl (i := dd) (e := n) 24 (by omega) (by show _ < ((288 : Nat) : Int); omega) e24 (by decide) (by decide) (by decide)) ?_
    refine jr_1 jm_271 (show jw_cd cd_271 61 = some (.if_icmp .ge 31) by decide +kernel) (mb_f (q := .ge) (a := t) (b := n) (by show ¬ (n ≤ t); omega) ⟨by omega, by omega⟩ ⟨by omega, by omega⟩ (by decide)) ?_
    refine jr_1 jm_271 (show jw_cd cd_271 64 = some (.iload_n 3) by decide +kernel) rfl ?_
    refine jr_1 jm_271 (show jw_cd cd_271 65 = some (.iconst (-1)) by decide +kernel) rfl ?_
    refine jr_1 jm_271 (show jw_cd cd_271 66 = some (.if_icmp .eq 26) by decide +kernel) (mb_f (q := .eq) (a := w) (b := -1) (fun (z : w = -1) => by omega) ⟨by omega, by omega⟩ ⟨by omega, by omega⟩ (by decide)) ?_
    refine jr_1 jm_271 (show jw_cd cd_271 69 = some (.aload_n 0) by decide +kernel) rfl ?_
    refine jr_1 jm_271 (show jw_cd cd_271 70 = some (.iload_n 3) by decide +kernel) rfl ?_
    refine jr_1 jm_271 (show jw_cd cd_271 71 = some (.aload_n 0) by decide +kernel) rfl ?_
    refine jr_1 jm_271 (show jw_cd cd_271 72 = some (.getfield 71) by decide +kernel) (mg_a hl (a := 36) (show jw_fld 34 71 16 = some 25 by decide +kernel) (by decide) (by decide)) ?_
    refine jr_1 jm_271 (show jw_cd cd_271 75 = some (.iconst 3) by decide +kernel) rfl ?_
    refine jr_1 jm_271 (show jw_cd cd_271 76 = some (.iload_n 1) by decide +kernel) rfl ?_
    refine jr_1 jm_271 (show jw_cd cd_271 77 = some (.imul) by decide +kernel) (mt_mul (c := 3 * dd) rfl) ?_
    refine jr_1 jm_271 (show jw_cd cd_271 78 = some (.iload 4) by decide +kernel) rfl ?_
    refine jr_1 jm_271 (show jw_cd cd_271 80 = some (.iadd) by decide +kernel) (mt_add (c := 3 * dd + t) rfl) ?_
    refine jr_1 jm_271 (show jw_cd cd_271 81 = some (.laload) by decide +kernel) (ma_j hl (i := 3 * dd + t) (e := pk s) 25 (by omega) (by show _ < ((864 : Nat) : Int); omega) p25 (by decide) (by decide) (by decide)) ?_
    refine jr_c jm_271 (show jw_cd cd_271 82 = some (.invokevirtual 132) by decide +kernel) (mc_v hl (n := 2) (m2 := 256) (bs := [.int (Int32.ofInt (w)), .long (Int64.ofInt (pk s))]) (r := []) (show jw_find jw_cvT 34 132 = some (2, [(16, 256)]) by decide +kernel) (by decide) rfl rfl rfl) jm_256 ⟨Nat.le_of_ble_eq_true rfl, by decide⟩ r1 ?_
    refine jr_1 jm_271 (F2 := (86, [some (.ref 15), some (.int (Int32.ofInt (dd))), some (.int (Int32.ofInt (e))), some (.int (Int32.ofInt (w'))), some (.int (Int32.ofInt (t)))], [], ml_mk h σ)) (show jw_cd cd_271 85 = some (.istore_n 3) by decide +kernel) rfl ?_
    refine jr_1 jm_271 (F2 := (89, [some (.ref 15), some (.int (Int32.ofInt (dd))), some (.int (Int32.ofInt (e))), some (.int (Int32.ofInt (w'))), some (.int (Int32.ofInt (t + 1)))], [], ml_mk h σ)) (show jw_cd cd_271 86 = some (.iinc 4 1) by decide +kernel) (mt_inc (a := t) (c := t + 1) rfl (by omega) rfl) ?_
    refine jr_1 jm_271 (show jw_cd cd_271 89 = some (.goto (-36)) by decide +kernel) (ju_go (t := 53) (by decide)) ?_
    exact z1

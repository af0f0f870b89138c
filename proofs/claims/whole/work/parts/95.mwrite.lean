/-! ===== the model writes a value (printed by program: gen23.py) ===== -/
section ME
variable {T : jx_T} {cd : Nat → Option Instr} {own pc : Nat} {rt : Option FieldType × Bool} {lo : jx_L} {st : List Value} {h : jx_H}
theorem mt_ts {d lw hi off a : Int} {offs : Array Int} {t : Nat} (ha : mr a) (h1 : ¬ (a < lw ∨ hi < a)) (ho : offs[(a - lw).toNat]? = some off) (e : jx_to pc off = some t) : jx_do T cd own pc rt (.tableswitch d lw hi offs) lo (.int (Int32.ofInt a) :: st) h = some (.inl (t, lo, st, h)) := by
  simp only [jx_do, mr_i ha, if_neg h1, ho, jx_go, e]
theorem mt_td {d lw hi a : Int} {offs : Array Int} {t : Nat} (ha : mr a) (h1 : a < lw ∨ hi < a) (e : jx_to pc d = some t) : jx_do T cd own pc rt (.tableswitch d lw hi offs) lo (.int (Int32.ofInt a) :: st) h = some (.inl (t, lo, st, h)) := by
  simp only [jx_do, mr_i ha, if_pos h1, jx_go, e]
end ME
theorem jn_chars_loop {β : Bool} {d : Nat} {h : jx_H} {σ : mS} (hl : 49 ≤ h.length) {s : List Int} (hs : tx s) : ∀ (r : Nat) (j : Int) (τ : mS) (l : List Int), 0 ≤ j → j + r = s.length → mEq [45, 46] σ τ → pap τ l → l.length + r ≤ 500 → ∃ τ', jx_r (jz β) jw_M (d + 2) 279 (2, [some (.ref 15), some (.long (Int64.ofInt (pk s))), none, some (.int (Int32.ofInt (j)))], [], ml_mk h τ) (ml_mk h (τ'), .inl none) ∧ mEq [45, 46] σ τ' ∧ pap τ' (l ++ s.drop j.toNat) := by
  have h7 := hs.1
  intro r
  induction r with
  | zero =>
    intro j τ l h0 hj hq hp h5
    refine ⟨τ, ?_, hq, by rw [List.drop_eq_nil_of_le (by omega), List.append_nil]; exact hp⟩
    refine jr_1 jm_279 (show jw_cd cd_279 2 = some (.iload_n 3) by decide +kernel) rfl ?_
    refine jr_1 jm_279 (show jw_cd cd_279 3 = some (.lload_n 1) by decide +kernel) rfl ?_
    refine jr_c jm_279 (show jw_cd cd_279 4 = some (.invokestatic 314) by decide +kernel) (mc_s (n := 1) (m2 := 249) (bs := [.long (Int64.ofInt (pk s))]) (r := [.int (Int32.ofInt (j))]) (by decide) (show jw_find jw_csT 34 314 = some (249, 1) by decide +kernel) rfl rfl rfl) jm_249 ⟨Nat.le_of_ble_eq_true rfl, by decide⟩ (jn_lengthOf hl hs) ?_
    refine jr_1 jm_279 (show jw_cd cd_279 7 = some (.if_icmp .ge 18) by decide +kernel) (mb_t (q := .ge) (a := j) (b := (s.length : Int)) (t := 25) (by show (s.length : Int) ≤ j; omega) ⟨by omega, by omega⟩ ⟨by omega, by omega⟩ (by decide) (by decide)) ?_
    exact jr_v jm_279 (show jw_cd cd_279 25 = some (.return_) by decide +kernel) rfl
  | succ r ih =>
    intro j τ l h0 hj hq hp h5
    have hlt : j.toNat < s.length := by omega
    have e : s.drop j.toNat = s.getD j.toNat 0 :: s.drop (j + 1).toNat := by
      rw [List.drop_eq_getElem_cons hlt, List.getD_eq_getElem?_getD, List.getElem?_eq_getElem hlt, show (j + 1).toNat = j.toNat + 1 by omega]
      rfl
    obtain ⟨τ', r1, r2, r3⟩ := ih (j + 1) (mMark τ (s.getD j.toNat 0)) (l ++ [s.getD j.toNat 0]) (by omega) (by omega) (mEq_mark hq (by decide) (by decide)) (pap_mark hp) (by simp; omega)
    refine ⟨τ', ?_, r2, by rw [e]; rw [List.append_assoc] at r3; exact r3⟩
    refine jr_1 jm_279 (show jw_cd cd_279 2 = some (.iload_n 3) by decide +kernel) rfl ?_
    refine jr_1 jm_279 (show jw_cd cd_279 3 = some (.lload_n 1) by decide +kernel) rfl ?_
    refine jr_c jm_279 (show jw_cd cd_279 4 = some (.invokestatic 314) by decide +kernel) (mc_s (n := 1) (m2 := 249) (bs := [.long (Int64.ofInt (pk s))]) (r := [.int (Int32.ofInt (j))]) (by decide) (show jw_find jw_csT 34 314 = some (249, 1) by decide +kernel) rfl rfl rfl) jm_249 ⟨Nat.le_of_ble_eq_true rfl, by decide⟩ (jn_lengthOf hl hs) ?_
    refine jr_1 jm_279 (show jw_cd cd_279 7 = some (.if_icmp .ge 18) by decide +kernel) (mb_f (q := .ge) (a := j) (b := (s.length : Int)) (by show ¬ ((s.length : Int) ≤ j); omega) ⟨by omega, by omega⟩ ⟨by omega, by omega⟩ (by decide)) ?_
    refine jr_1 jm_279 (show jw_cd cd_279 10 = some (.aload_n 0) by decide +kernel) rfl ?_
    refine jr_1 jm_279 (show jw_cd cd_279 11 = some (.lload_n 1) by decide +kernel) rfl ?_
    refine jr_1 jm_279 (show jw_cd cd_279 12 = some (.iload_n 3) by decide +kernel) rfl ?_
    refine jr_c jm_279 (show jw_cd cd_279 13 = some (.invokestatic 138) by decide +kernel) (mc_s (n := 2) (m2 := 250) (bs := [.long (Int64.ofInt (pk s)), .int (Int32.ofInt (j))]) (r := [.ref 15]) (by decide) (show jw_find jw_csT 34 138 = some (250, 2) by decide +kernel) rfl rfl rfl) jm_250 ⟨Nat.le_of_ble_eq_true rfl, by decide⟩ (jn_charAt hl hs ⟨by omega, by omega⟩) ?_
    refine jr_c jm_279 (show jw_cd cd_279 16 = some (.invokevirtual 356) by decide +kernel) (mc_v hl (n := 1) (m2 := 277) (bs := [.int (Int32.ofInt (s.getD (j).toNat 0))]) (r := []) (show jw_find jw_cvT 34 356 = some (1, [(16, 277)]) by decide +kernel) (by decide) rfl rfl rfl) jm_277 ⟨Nat.le_of_ble_eq_true rfl, by decide⟩ (jn_markP hl hp (by omega)) ?_
    refine jr_1 jm_279 (F2 := (22, [some (.ref 15), some (.long (Int64.ofInt (pk s))), none, some (.int (Int32.ofInt (j + 1)))], [], ml_mk h (mMark τ (s.getD (j).toNat 0)))) (show jw_cd cd_279 19 = some (.iinc 3 1) by decide +kernel) (mt_inc (a := j) (c := j + 1) rfl (by omega) rfl) ?_
    refine jr_1 jm_279 (show jw_cd cd_279 22 = some (.goto (-20)) by decide +kernel) (ju_go (t := 2) (by decide)) ?_
    exact r1
theorem jn_chars {β : Bool} {d : Nat} {h : jx_H} {σ : mS} (hl : 49 ≤ h.length) {s : List Int} (hs : tx s) {τ : mS} {l : List Int} (hq : mEq [45, 46] σ τ) (hp : pap τ l) (h5 : l.length + s.length ≤ 500) : ∃ τ', jx_r (jz β) jw_M (d + 2) 279 (0, [some (.ref 15), some (.long (Int64.ofInt (pk s))), none, none], [], ml_mk h τ) (ml_mk h (τ'), .inl none) ∧ mEq [45, 46] σ τ' ∧ pap τ' (l ++ s) := by
  obtain ⟨τ', r1, r2, r3⟩ := jn_chars_loop (β := β) (d := d) hl hs s.length 0 τ l (by omega) (by omega) hq hp h5
  refine ⟨τ', ?_, r2, r3⟩
  refine jr_1 jm_279 (show jw_cd cd_279 0 = some (.iconst 0) by decide +kernel) rfl ?_
  refine jr_1 jm_279 (F2 := (2, [some (.ref 15), some (.long (Int64.ofInt (pk s))), none, some (.int (Int32.ofInt (0)))], [], ml_mk h τ)) (show jw_cd cd_279 1 = some (.istore_n 3) by decide +kernel) rfl ?_
  exact r1
/-- a leaf, or what a list or an object begins with -/
def wL (i : tI) : List Int := if i.1 = 0 then [110] else if i.1 = 1 then [102] else if i.1 = 2 then [116] else if i.1 = 3 then dec i.2.1 else if i.1 = 4 then 39 :: (i.2.2.1 ++ [39]) else if i.1 = 5 then [91] else [123]
def wC (i : tI) : Int := if i.1 = 5 then 93 else 125
def wF (ob first : Bool) : FT → List Int
  | .leaf => []
  | .inner _ i _ c n => (bif first then [] else [44]) ++ ((bif ob then i.2.2.2 ++ [58] else []) ++ (wL i ++ ((if 5 ≤ i.1 then wF (decide (i.1 = 6)) true c ++ [wC i] else []) ++ wF ob false n)))
def wV (i : tI) (F : FT) : List Int := wL i ++ (if 5 ≤ i.1 then wF (decide (i.1 = 6)) true F ++ [wC i] else [])
theorem wL_len {i : tI} (h : tx i.2.2.1) : (wL i).length ≤ 12 := by
  have h7 := h.1
  unfold wL dec
  repeat' split
  all_goals simp only [List.length_cons, List.length_append, List.length_nil, dgk_len]
  all_goals (try have k1 := kdg_le 9 (-i.2.1)); (try have k2 := kdg_le 9 i.2.1); omega
theorem mEq_trans {L : List Nat} {σ τ ρ : mS} (h1 : mEq L σ τ) (h2 : mEq L τ ρ) : mEq L σ ρ := fun g hg => (h2 g hg).trans (h1 g hg)
theorem mEq_sub {L L' : List Nat} {σ τ : mS} (h : mEq L σ τ) (hs : ∀ g ∈ L, g ∈ L') : mEq L' σ τ := fun g hg => h g (fun z => hg (hs g z))
theorem jn_leaf {β : Bool} {d : Nat} {h : jx_H} {σ : mS} (hl : 49 ≤ h.length) {v : Int} {i : tI} {τ : mS} (hv : 0 ≤ v ∧ v < 1740) (p3 : τ 3 v = i.1) (p4 : τ 4 v = i.2.1) (p5 : τ 5 v = pk i.2.2.1) (hk0 : 0 ≤ i.1 ∧ i.1 ≤ 6) (hn : mr i.2.1) (ht : tx i.2.2.1) {l : List Int} (hp : pap τ l) (h5 : l.length + 12 ≤ 500) : ∃ τ', jx_r (jz β) jw_M (d + 4) 276 (0, [some (.ref 15), some (.int (Int32.ofInt (v)))], [], ml_mk h τ) (ml_mk h (τ'), .inl none) ∧ mEq [45, 46] τ τ' ∧ pap τ' (l ++ wL i) := by
  obtain ⟨v0, v1⟩ := hv
  obtain ⟨k0, k6⟩ := hk0
  have h7 := ht.1
  by_cases hk : i.1 = 0
  · rw [show wL i = [110] from by unfold wL; simp [hk]]
    refine ⟨mMark τ 110, ?_, mEq_mark (mEq_refl _ _) (by decide) (by decide), pap_mark hp⟩
    refine jr_1 jm_276 (show jw_cd cd_276 0 = some (.aload_n 0) by decide +kernel) rfl ?_
    refine jr_1 jm_276 (show jw_cd cd_276 1 = some (.getfield 13) by decide +kernel) (mg_a hl (a := 17) (show jw_fld 34 13 16 = some 3 by decide +kernel) (by decide) (by decide)) ?_
    refine jr_1 jm_276 (show jw_cd cd_276 4 = some (.iload_n 1) by decide +kernel) rfl ?_
    refine jr_1 jm_276 (show jw_cd cd_276 5 = some (.iaload) by decide +kernel) (ma_i hl (i := v) (e := i.1) 3 (by omega) (by show _ < ((1740 : Nat) : Int); omega) p3 (by decide) (by decide) (by decide)) ?_
    refine jr_1 jm_276 (show jw_cd cd_276 6 = some (.tableswitch 99 0 4 #[34, 43, 52, 61, 74]) by decide +kernel) (mt_ts (t := 40) (off := 34) ⟨by omega, by omega⟩ (by omega) (by rw [hk]; rfl) (by decide)) ?_
    refine jr_1 jm_276 (show jw_cd cd_276 40 = some (.aload_n 0) by decide +kernel) rfl ?_
    refine jr_1 jm_276 (show jw_cd cd_276 41 = some (.bipush 110) by decide +kernel) (mt_bi (by decide)) ?_
    refine jr_c jm_276 (show jw_cd cd_276 43 = some (.invokevirtual 356) by decide +kernel) (mc_v hl (n := 1) (m2 := 277) (bs := [.int (Int32.ofInt (110))]) (r := []) (show jw_find jw_cvT 34 356 = some (1, [(16, 277)]) by decide +kernel) (by decide) rfl rfl rfl) jm_277 ⟨Nat.le_of_ble_eq_true rfl, by decide⟩ (jn_markP hl hp (by omega)) ?_
    refine jr_1 jm_276 (show jw_cd cd_276 46 = some (.goto 80) by decide +kernel) (ju_go (t := 126) (by decide)) ?_
    exact jr_v jm_276 (show jw_cd cd_276 126 = some (.return_) by decide +kernel) rfl
  by_cases hk : i.1 = 1
  · rw [show wL i = [102] from by unfold wL; simp [hk]]
    refine ⟨mMark τ 102, ?_, mEq_mark (mEq_refl _ _) (by decide) (by decide), pap_mark hp⟩
    refine jr_1 jm_276 (show jw_cd cd_276 0 = some (.aload_n 0) by decide +kernel) rfl ?_
    refine jr_1 jm_276 (show jw_cd cd_276 1 = some (.getfield 13) by decide +kernel) (mg_a hl (a := 17) (show jw_fld 34 13 16 = some 3 by decide +kernel) (by decide) (by decide)) ?_
    refine jr_1 jm_276 (show jw_cd cd_276 4 = some (.iload_n 1) by decide +kernel) rfl ?_
    refine jr_1 jm_276 (show jw_cd cd_276 5 = some (.iaload) by decide +kernel) (ma_i hl (i := v) (e := i.1) 3 (by omega) (by show _ < ((1740 : Nat) : Int); omega) p3 (by decide) (by decide) (by decide)) ?_
    refine jr_1 jm_276 (show jw_cd cd_276 6 = some (.tableswitch 99 0 4 #[34, 43, 52, 61, 74]) by decide +kernel) (mt_ts (t := 49) (off := 43) ⟨by omega, by omega⟩ (by omega) (by rw [hk]; rfl) (by decide)) ?_
    refine jr_1 jm_276 (show jw_cd cd_276 49 = some (.aload_n 0) by decide +kernel) rfl ?_
    refine jr_1 jm_276 (show jw_cd cd_276 50 = some (.bipush 102) by decide +kernel) (mt_bi (by decide)) ?_
    refine jr_c jm_276 (show jw_cd cd_276 52 = some (.invokevirtual 356) by decide +kernel) (mc_v hl (n := 1) (m2 := 277) (bs := [.int (Int32.ofInt (102))]) (r := []) (show jw_find jw_cvT 34 356 = some (1, [(16, 277)]) by decide +kernel) (by decide) rfl rfl rfl) jm_277 ⟨Nat.le_of_ble_eq_true rfl, by decide⟩ (jn_markP hl hp (by omega)) ?_
    refine jr_1 jm_276 (show jw_cd cd_276 55 = some (.goto 71) by decide +kernel) (ju_go (t := 126) (by decide)) ?_
    exact jr_v jm_276 (show jw_cd cd_276 126 = some (.return_) by decide +kernel) rfl
  by_cases hk : i.1 = 2
  · rw [show wL i = [116] from by unfold wL; simp [hk]]
    refine ⟨mMark τ 116, ?_, mEq_mark (mEq_refl _ _) (by decide) (by decide), pap_mark hp⟩
    refine jr_1 jm_276 (show jw_cd cd_276 0 = some (.aload_n 0) by decide +kernel) rfl ?_
    refine jr_1 jm_276 (show jw_cd cd_276 1 = some (.getfield 13) by decide +kernel) (mg_a hl (a := 17) (show jw_fld 34 13 16 = some 3 by decide +kernel) (by decide) (by decide)) ?_
    refine jr_1 jm_276 (show jw_cd cd_276 4 = some (.iload_n 1) by decide +kernel) rfl ?_
    refine jr_1 jm_276 (show jw_cd cd_276 5 = some (.iaload) by decide +kernel) (ma_i hl (i := v) (e := i.1) 3 (by omega) (by show _ < ((1740 : Nat) : Int); omega) p3 (by decide) (by decide) (by decide)) ?_
    refine jr_1 jm_276 (show jw_cd cd_276 6 = some (.tableswitch 99 0 4 #[34, 43, 52, 61, 74]) by decide +kernel) (mt_ts (t := 58) (off := 52) ⟨by omega, by omega⟩ (by omega) (by rw [hk]; rfl) (by decide)) ?_
    refine jr_1 jm_276 (show jw_cd cd_276 58 = some (.aload_n 0) by decide +kernel) rfl ?_
    refine jr_1 jm_276 (show jw_cd cd_276 59 = some (.bipush 116) by decide +kernel) (mt_bi (by decide)) ?_
    refine jr_c jm_276 (show jw_cd cd_276 61 = some (.invokevirtual 356) by decide +kernel) (mc_v hl (n := 1) (m2 := 277) (bs := [.int (Int32.ofInt (116))]) (r := []) (show jw_find jw_cvT 34 356 = some (1, [(16, 277)]) by decide +kernel) (by decide) rfl rfl rfl) jm_277 ⟨Nat.le_of_ble_eq_true rfl, by decide⟩ (jn_markP hl hp (by omega)) ?_
    refine jr_1 jm_276 (show jw_cd cd_276 64 = some (.goto 62) by decide +kernel) (ju_go (t := 126) (by decide)) ?_
    exact jr_v jm_276 (show jw_cd cd_276 126 = some (.return_) by decide +kernel) rfl
  by_cases hk : i.1 = 3
  · rw [show wL i = dec i.2.1 from by unfold wL; simp [hk]]
    obtain ⟨τ', r1, r2, r3⟩ := jn_decimal (β := β) (d := d + 2) hl hn (mEq_refl _ τ) hp (by omega)
    refine ⟨τ', ?_, r2, r3⟩
    refine jr_1 jm_276 (show jw_cd cd_276 0 = some (.aload_n 0) by decide +kernel) rfl ?_
    refine jr_1 jm_276 (show jw_cd cd_276 1 = some (.getfield 13) by decide +kernel) (mg_a hl (a := 17) (show jw_fld 34 13 16 = some 3 by decide +kernel) (by decide) (by decide)) ?_
    refine jr_1 jm_276 (show jw_cd cd_276 4 = some (.iload_n 1) by decide +kernel) rfl ?_
    refine jr_1 jm_276 (show jw_cd cd_276 5 = some (.iaload) by decide +kernel) (ma_i hl (i := v) (e := i.1) 3 (by omega) (by show _ < ((1740 : Nat) : Int); omega) p3 (by decide) (by decide) (by decide)) ?_
    refine jr_1 jm_276 (show jw_cd cd_276 6 = some (.tableswitch 99 0 4 #[34, 43, 52, 61, 74]) by decide +kernel) (mt_ts (t := 67) (off := 61) ⟨by omega, by omega⟩ (by omega) (by rw [hk]; rfl) (by decide)) ?_
    refine jr_1 jm_276 (show jw_cd cd_276 67 = some (.aload_n 0) by decide +kernel) rfl ?_
    refine jr_1 jm_276 (show jw_cd cd_276 68 = some (.aload_n 0) by decide +kernel) rfl ?_
    refine jr_1 jm_276 (show jw_cd cd_276 69 = some (.getfield 16) by decide +kernel) (mg_a hl (a := 18) (show jw_fld 34 16 16 = some 4 by decide +kernel) (by decide) (by decide)) ?_
    refine jr_1 jm_276 (show jw_cd cd_276 72 = some (.iload_n 1) by decide +kernel) rfl ?_
    refine jr_1 jm_276 (show jw_cd cd_276 73 = some (.iaload) by decide +kernel) (ma_i hl (i := v) (e := i.2.1) 4 (by omega) (by show _ < ((1740 : Nat) : Int); omega) p4 (by decide) (by decide) (by decide)) ?_
    refine jr_c jm_276 (show jw_cd cd_276 74 = some (.invokevirtual 363) by decide +kernel) (mc_v hl (n := 1) (m2 := 278) (bs := [.int (Int32.ofInt (i.2.1))]) (r := []) (show jw_find jw_cvT 34 363 = some (1, [(16, 278)]) by decide +kernel) (by decide) rfl rfl rfl) jm_278 ⟨Nat.le_of_ble_eq_true rfl, by decide⟩ r1 ?_
    refine jr_1 jm_276 (show jw_cd cd_276 77 = some (.goto 49) by decide +kernel) (ju_go (t := 126) (by decide)) ?_
    exact jr_v jm_276 (show jw_cd cd_276 126 = some (.return_) by decide +kernel) rfl
  by_cases hk : i.1 = 4
  · rw [show wL i = 39 :: (i.2.2.1 ++ [39]) from by unfold wL; simp [hk]]
    have p5b : (mMark τ (39)) 5 v = pk i.2.2.1 := ((su_nf (by decide)).trans (su_nf (by decide))).trans p5
    obtain ⟨τ', r1, r2, r3⟩ := jn_chars (β := β) (d := d + 1) hl ht (mEq_refl _ (mMark τ 39)) (pap_mark hp) (by simp; omega)
    refine ⟨mMark τ' 39, ?_, mEq_mark (mEq_trans (mEq_mark (mEq_refl _ _) (by decide) (by decide)) r2) (by decide) (by decide), by have r4 := pap_mark (c := 39) r3; rw [List.append_assoc, List.append_assoc] at r4; exact r4⟩
    refine jr_1 jm_276 (show jw_cd cd_276 0 = some (.aload_n 0) by decide +kernel) rfl ?_
    refine jr_1 jm_276 (show jw_cd cd_276 1 = some (.getfield 13) by decide +kernel) (mg_a hl (a := 17) (show jw_fld 34 13 16 = some 3 by decide +kernel) (by decide) (by decide)) ?_
    refine jr_1 jm_276 (show jw_cd cd_276 4 = some (.iload_n 1) by decide +kernel) rfl ?_
    refine jr_1 jm_276 (show jw_cd cd_276 5 = some (.iaload) by decide +kernel) (ma_i hl (i := v) (e := i.1) 3 (by omega) (by show _ < ((1740 : Nat) : Int); omega) p3 (by decide) (by decide) (by decide)) ?_
    refine jr_1 jm_276 (show jw_cd cd_276 6 = some (.tableswitch 99 0 4 #[34, 43, 52, 61, 74]) by decide +kernel) (mt_ts (t := 80) (off := 74) ⟨by omega, by omega⟩ (by omega) (by rw [hk]; rfl) (by decide)) ?_
    refine jr_1 jm_276 (show jw_cd cd_276 80 = some (.aload_n 0) by decide +kernel) rfl ?_
    refine jr_1 jm_276 (show jw_cd cd_276 81 = some (.bipush 39) by decide +kernel) (mt_bi (by decide)) ?_
    refine jr_c jm_276 (show jw_cd cd_276 83 = some (.invokevirtual 356) by decide +kernel) (mc_v hl (n := 1) (m2 := 277) (bs := [.int (Int32.ofInt (39))]) (r := []) (show jw_find jw_cvT 34 356 = some (1, [(16, 277)]) by decide +kernel) (by decide) rfl rfl rfl) jm_277 ⟨Nat.le_of_ble_eq_true rfl, by decide⟩ (jn_markP hl hp (by omega)) ?_
    refine jr_1 jm_276 (show jw_cd cd_276 86 = some (.aload_n 0) by decide +kernel) rfl ?_
    refine jr_1 jm_276 (show jw_cd cd_276 87 = some (.aload_n 0) by decide +kernel) rfl ?_
    refine jr_1 jm_276 (show jw_cd cd_276 88 = some (.getfield 19) by decide +kernel) (mg_a hl (a := 19) (show jw_fld 34 19 16 = some 5 by decide +kernel) (by decide) (by decide)) ?_
    refine jr_1 jm_276 (show jw_cd cd_276 91 = some (.iload_n 1) by decide +kernel) rfl ?_
    refine jr_1 jm_276 (show jw_cd cd_276 92 = some (.laload) by decide +kernel) (ma_j hl (i := v) (e := pk i.2.2.1) 5 (by omega) (by show _ < ((1740 : Nat) : Int); omega) p5b (by decide) (by decide) (by decide)) ?_
    refine jr_c jm_276 (show jw_cd cd_276 93 = some (.invokevirtual 366) by decide +kernel) (mc_v hl (n := 1) (m2 := 279) (bs := [.long (Int64.ofInt (pk i.2.2.1))]) (r := []) (show jw_find jw_cvT 34 366 = some (1, [(16, 279)]) by decide +kernel) (by decide) rfl rfl rfl) jm_279 ⟨Nat.le_of_ble_eq_true rfl, by decide⟩ r1 ?_
    refine jr_1 jm_276 (show jw_cd cd_276 96 = some (.aload_n 0) by decide +kernel) rfl ?_
    refine jr_1 jm_276 (show jw_cd cd_276 97 = some (.bipush 39) by decide +kernel) (mt_bi (by decide)) ?_
    refine jr_c jm_276 (show jw_cd cd_276 99 = some (.invokevirtual 356) by decide +kernel) (mc_v hl (n := 1) (m2 := 277) (bs := [.int (Int32.ofInt (39))]) (r := []) (show jw_find jw_cvT 34 356 = some (1, [(16, 277)]) by decide +kernel) (by decide) rfl rfl rfl) jm_277 ⟨Nat.le_of_ble_eq_true rfl, by decide⟩ (jn_markP hl r3 (by simp; omega)) ?_
    refine jr_1 jm_276 (show jw_cd cd_276 102 = some (.goto 24) by decide +kernel) (ju_go (t := 126) (by decide)) ?_
    exact jr_v jm_276 (show jw_cd cd_276 126 = some (.return_) by decide +kernel) rfl
  by_cases hk : i.1 = 5
  · rw [show wL i = [91] from by unfold wL; simp [hk]]
    refine ⟨mMark τ 91, ?_, mEq_mark (mEq_refl _ _) (by decide) (by decide), pap_mark hp⟩
    refine jr_1 jm_276 (show jw_cd cd_276 0 = some (.aload_n 0) by decide +kernel) rfl ?_
    refine jr_1 jm_276 (show jw_cd cd_276 1 = some (.getfield 13) by decide +kernel) (mg_a hl (a := 17) (show jw_fld 34 13 16 = some 3 by decide +kernel) (by decide) (by decide)) ?_
    refine jr_1 jm_276 (show jw_cd cd_276 4 = some (.iload_n 1) by decide +kernel) rfl ?_
    refine jr_1 jm_276 (show jw_cd cd_276 5 = some (.iaload) by decide +kernel) (ma_i hl (i := v) (e := i.1) 3 (by omega) (by show _ < ((1740 : Nat) : Int); omega) p3 (by decide) (by decide) (by decide)) ?_
    refine jr_1 jm_276 (show jw_cd cd_276 6 = some (.tableswitch 99 0 4 #[34, 43, 52, 61, 74]) by decide +kernel) (mt_td (t := 105) ⟨by omega, by omega⟩ (by omega) (by decide)) ?_
    refine jr_1 jm_276 (show jw_cd cd_276 105 = some (.aload_n 0) by decide +kernel) rfl ?_
    refine jr_1 jm_276 (show jw_cd cd_276 106 = some (.aload_n 0) by decide +kernel) rfl ?_
    refine jr_1 jm_276 (show jw_cd cd_276 107 = some (.getfield 13) by decide +kernel) (mg_a hl (a := 17) (show jw_fld 34 13 16 = some 3 by decide +kernel) (by decide) (by decide)) ?_
    refine jr_1 jm_276 (show jw_cd cd_276 110 = some (.iload_n 1) by decide +kernel) rfl ?_
    refine jr_1 jm_276 (show jw_cd cd_276 111 = some (.iaload) by decide +kernel) (ma_i hl (i := v) (e := i.1) 3 (by omega) (by show _ < ((1740 : Nat) : Int); omega) p3 (by decide) (by decide) (by decide)) ?_
    refine jr_1 jm_276 (show jw_cd cd_276 112 = some (.iconst 5) by decide +kernel) rfl ?_
    refine jr_1 jm_276 (show jw_cd cd_276 113 = some (.if_icmp .ne 8) by decide +kernel) (mb_f (q := .ne) (a := i.1) (b := 5) (fun z => z hk) ⟨by omega, by omega⟩ ⟨by omega, by omega⟩ (by decide)) ?_
    refine jr_1 jm_276 (show jw_cd cd_276 116 = some (.bipush 91) by decide +kernel) (mt_bi (by decide)) ?_
    refine jr_1 jm_276 (show jw_cd cd_276 118 = some (.goto 5) by decide +kernel) (ju_go (t := 123) (by decide)) ?_
    refine jr_c jm_276 (show jw_cd cd_276 123 = some (.invokevirtual 356) by decide +kernel) (mc_v hl (n := 1) (m2 := 277) (bs := [.int (Int32.ofInt (91))]) (r := []) (show jw_find jw_cvT 34 356 = some (1, [(16, 277)]) by decide +kernel) (by decide) rfl rfl rfl) jm_277 ⟨Nat.le_of_ble_eq_true rfl, by decide⟩ (jn_markP hl hp (by omega)) ?_
    exact jr_v jm_276 (show jw_cd cd_276 126 = some (.return_) by decide +kernel) rfl
  · rw [show wL i = [123] from by unfold wL; simp [*]]
    refine ⟨mMark τ 123, ?_, mEq_mark (mEq_refl _ _) (by decide) (by decide), pap_mark hp⟩
    refine jr_1 jm_276 (show jw_cd cd_276 0 = some (.aload_n 0) by decide +kernel) rfl ?_
    refine jr_1 jm_276 (show jw_cd cd_276 1 = some (.getfield 13) by decide +kernel) (mg_a hl (a := 17) (show jw_fld 34 13 16 = some 3 by decide +kernel) (by decide) (by decide)) ?_
    refine jr_1 jm_276 (show jw_cd cd_276 4 = some (.iload_n 1) by decide +kernel) rfl ?_
    refine jr_1 jm_276 (show jw_cd cd_276 5 = some (.iaload) by decide +kernel) (ma_i hl (i := v) (e := i.1) 3 (by omega) (by show _ < ((1740 : Nat) : Int); omega) p3 (by decide) (by decide) (by decide)) ?_
    refine jr_1 jm_276 (show jw_cd cd_276 6 = some (.tableswitch 99 0 4 #[34, 43, 52, 61, 74]) by decide +kernel) (mt_td (t := 105) ⟨by omega, by omega⟩ (by omega) (by decide)) ?_
    refine jr_1 jm_276 (show jw_cd cd_276 105 = some (.aload_n 0) by decide +kernel) rfl ?_
    refine jr_1 jm_276 (show jw_cd cd_276 106 = some (.aload_n 0) by decide +kernel) rfl ?_
    refine jr_1 jm_276 (show jw_cd cd_276 107 = some (.getfield 13) by decide +kernel) (mg_a hl (a := 17) (show jw_fld 34 13 16 = some 3 by decide +kernel) (by decide) (by decide)) ?_
    refine jr_1 jm_276 (show jw_cd cd_276 110 = some (.iload_n 1) by decide +kernel) rfl ?_
    refine jr_1 jm_276 (show jw_cd cd_276 111 = some (.iaload) by decide +kernel) (ma_i hl (i := v) (e := i.1) 3 (by omega) (by show _ < ((1740 : Nat) : Int); omega) p3 (by decide) (by decide) (by decide)) ?_
    refine jr_1 jm_276 (show jw_cd cd_276 112 = some (.iconst 5) by decide +kernel) rfl ?_
    refine jr_1 jm_276 (show jw_cd cd_276 113 = some (.if_icmp .ne 8) by decide +kernel) (mb_t (q := .ne) (a := i.1) (b := 5) (t := 121) hk ⟨by omega, by omega⟩ ⟨by omega, by omega⟩ (by decide) (by decide)) ?_
    refine jr_1 jm_276 (show jw_cd cd_276 121 = some (.bipush 123) by decide +kernel) (mt_bi (by decide)) ?_
    refine jr_c jm_276 (show jw_cd cd_276 123 = some (.invokevirtual 356) by decide +kernel) (mc_v hl (n := 1) (m2 := 277) (bs := [.int (Int32.ofInt (123))]) (r := []) (show jw_find jw_cvT 34 356 = some (1, [(16, 277)]) by decide +kernel) (by decide) rfl rfl rfl) jm_277 ⟨Nat.le_of_ble_eq_true rfl, by decide⟩ (jn_markP hl hp (by omega)) ?_
    exact jr_v jm_276 (show jw_cd cd_276 126 = some (.return_) by decide +kernel) rfl

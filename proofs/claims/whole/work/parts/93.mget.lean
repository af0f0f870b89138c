/-! ===== letters of packed texts; a key's node; the k-th element (printed by program: gen21.py) ===== -/
def m64 (a : Int) : Prop := -9223372036854775808 ≤ a ∧ a ≤ 9223372036854775807
theorem m64_i {a : Int} (h : m64 a) : (Int64.ofInt a).toInt = a := Int64.toInt_ofInt_of_le (by have := h.1; show (-2 ^ 63 : Int) ≤ a; omega) (by have := h.2; show a < (2 ^ 63 : Int); omega)
section MC
variable {T : jx_T} {cd : Nat → Option Instr} {own pc : Nat} {rt : Option FieldType × Bool} {lo : jx_L} {st : List Value} {h : jx_H}
theorem mt_cmp {a b r : Int} (ha : m64 a) (hb : m64 b) (hr : (if a < b then -1 else if a = b then 0 else 1) = r) : jx_do T cd own pc rt .lcmp lo (.long (Int64.ofInt b) :: .long (Int64.ofInt a) :: st) h = some (.inl (pc + 1, lo, .int (Int32.ofInt r) :: st, h)) := by
  have e : lg_cmp (Int64.ofInt a) (Int64.ofInt b) = Int32.ofInt r := by
    unfold lg_cmp
    simp only [Int64.lt_iff_toInt_lt, ← Int64.toInt_inj, m64_i ha, m64_i hb]
    rw [← hr]
    obtain h1 | h1 | h1 : a < b ∨ a = b ∨ b < a := by omega
    · rw [if_neg (by omega), if_neg (by omega), if_pos h1]
      rfl
    · subst h1
      simp
    · rw [if_pos h1, if_neg (by omega), if_neg (by omega)]
      rfl
  simp only [jx_do, e]
theorem mt_l2 {k : Nat} {x : Int64} {n : Int} (hk : jx_kc T own k = some (.long x)) (hx : x = Int64.ofInt n) : jx_do T cd own pc rt (.ldc2_w k) lo st h = some (.inl (pc + 3, lo, .long (Int64.ofInt n) :: st, h)) := by
  simp only [jx_do, hk, hx]
end MC
theorem jn_charAt {β : Bool} {d : Nat} {h : jx_H} {σ : mS} (hl : 49 ≤ h.length) {l : List Int} {k : Int} (hl2 : tx l) (hk : 0 ≤ k ∧ k ≤ 100) : jx_r (jz β) jw_M (d) 250 (0, [some (.long (Int64.ofInt (pk l))), none, some (.int (Int32.ofInt (k)))], [], ml_mk h σ) (ml_mk h (σ), .inl (some (.int (Int32.ofInt (l.getD k.toNat 0))))) := by
  obtain ⟨k0, k1⟩ := hk
  refine jr_1 jm_250 (show jw_cd cd_250 0 = some (.iload_n 2) by decide +kernel) rfl ?_
  refine jr_1 jm_250 (show jw_cd cd_250 1 = some (.bipush 6) by decide +kernel) (mt_bi (by decide)) ?_
  by_cases h6 : 6 < k
  · rw [show l.getD k.toNat 0 = 0 from by
      have := hl2.1
      rw [List.getD_eq_getElem?_getD, List.getElem?_eq_none (by omega)]
      rfl]
    refine jr_1 jm_250 (show jw_cd cd_250 3 = some (.if_icmp .le 7) by decide +kernel) (mb_f (q := .le) (a := k) (b := 6) (by show ¬ (k ≤ 6); omega) ⟨by omega, by omega⟩ ⟨by omega, by omega⟩ (by decide)) ?_
    refine jr_1 jm_250 (show jw_cd cd_250 6 = some (.iconst 0) by decide +kernel) rfl ?_
    refine jr_1 jm_250 (show jw_cd cd_250 7 = some (.goto 17) by decide +kernel) (ju_go (t := 24) (by decide)) ?_
    exact jr_v jm_250 (show jw_cd cd_250 24 = some (.ireturn) by decide +kernel) rfl
  · have hd := pk_dig hl2 (k := k.toNat) (by omega)
    refine jr_1 jm_250 (show jw_cd cd_250 3 = some (.if_icmp .le 7) by decide +kernel) (mb_t (q := .le) (a := k) (b := 6) (t := 10) (by show k ≤ 6; omega) ⟨by omega, by omega⟩ ⟨by omega, by omega⟩ (by decide) (by decide)) ?_
    refine jr_1 jm_250 (show jw_cd cd_250 10 = some (.lload_n 0) by decide +kernel) rfl ?_
    refine jr_1 jm_250 (show jw_cd cd_250 11 = some (.bipush 7) by decide +kernel) (mt_bi (by decide)) ?_
    refine jr_1 jm_250 (show jw_cd cd_250 13 = some (.bipush 6) by decide +kernel) (mt_bi (by decide)) ?_
    refine jr_1 jm_250 (show jw_cd cd_250 15 = some (.iload_n 2) by decide +kernel) rfl ?_
    refine jr_1 jm_250 (show jw_cd cd_250 16 = some (.isub) by decide +kernel) (mt_sub (c := 6 - k) rfl) ?_
    refine jr_1 jm_250 (show jw_cd cd_250 17 = some (.imul) by decide +kernel) (mt_mul (c := 7 * (6 - k)) rfl) ?_
    refine jr_1 jm_250 (show jw_cd cd_250 18 = some (.lshr) by decide +kernel) (mt_shr (n := k) (r := l.getD k.toNat 0) (by omega) (by omega) rfl hd (pk_b hl2).1 (pk_b hl2).2) ?_
    refine jr_1 jm_250 (show jw_cd cd_250 19 = some (.ldc2_w 136) by decide +kernel) (F2 := (22, _, .long 127 :: [.long (Int64.ofInt (pk l) >>> Int64.ofNat (7 * (6 - k.toNat)))], _)) rfl ?_
    refine jr_1 jm_250 (show jw_cd cd_250 22 = some (.land) by decide +kernel) (mt_and (n := k) (r := l.getD k.toNat 0) (by omega) hd (pk_b hl2).1 (pk_b hl2).2) ?_
    refine jr_1 jm_250 (show jw_cd cd_250 23 = some (.l2i) by decide +kernel) mt_l2i ?_
    exact jr_v jm_250 (show jw_cd cd_250 24 = some (.ireturn) by decide +kernel) rfl
theorem jn_len_loop {β : Bool} {d : Nat} {h : jx_H} {σ : mS} (hl : 49 ≤ h.length) {l : List Int} (hl2 : tx l) : ∀ (s : Nat) (j : Int), 0 ≤ j → j + s = l.length → jx_r (jz β) jw_M (d + 1) 249 (2, [some (.long (Int64.ofInt (pk l))), none, some (.int (Int32.ofInt (j)))], [], ml_mk h σ) (ml_mk h (σ), .inl (some (.int (Int32.ofInt ((l.length : Int)))))) := by
  have h7 := hl2.1
  intro s
  induction s with
  | zero =>
    intro j h0 hs
    have hj : j = (l.length : Int) := by omega
    rw [← hj]
    refine jr_1 jm_249 (show jw_cd cd_249 2 = some (.iload_n 2) by decide +kernel) rfl ?_
    refine jr_1 jm_249 (show jw_cd cd_249 3 = some (.bipush 7) by decide +kernel) (mt_bi (by decide)) ?_
    by_cases hj7 : 7 ≤ j
    · skip
      refine jr_1 jm_249 (show jw_cd cd_249 5 = some (.if_icmp .ge 17) by decide +kernel) (mb_t (q := .ge) (a := j) (b := 7) (t := 22) (by show 7 ≤ j; omega) ⟨by omega, by omega⟩ ⟨by omega, by omega⟩ (by decide) (by decide)) ?_
      refine jr_1 jm_249 (show jw_cd cd_249 22 = some (.iload_n 2) by decide +kernel) rfl ?_
      exact jr_v jm_249 (show jw_cd cd_249 23 = some (.ireturn) by decide +kernel) rfl
    · have hz : l.getD j.toNat 0 = 0 := by
        rw [List.getD_eq_getElem?_getD, List.getElem?_eq_none (by omega)]
        rfl
      refine jr_1 jm_249 (show jw_cd cd_249 5 = some (.if_icmp .ge 17) by decide +kernel) (mb_f (q := .ge) (a := j) (b := 7) (by show ¬ (7 ≤ j); omega) ⟨by omega, by omega⟩ ⟨by omega, by omega⟩ (by decide)) ?_
      refine jr_1 jm_249 (show jw_cd cd_249 8 = some (.lload_n 0) by decide +kernel) rfl ?_
      refine jr_1 jm_249 (show jw_cd cd_249 9 = some (.iload_n 2) by decide +kernel) rfl ?_
      refine jr_c jm_249 (show jw_cd cd_249 10 = some (.invokestatic 138) by decide +kernel) (mc_s (n := 2) (m2 := 250) (bs := [.long (Int64.ofInt (pk l)), .int (Int32.ofInt (j))]) (r := []) (by decide) (show jw_find jw_csT 34 138 = some (250, 2) by decide +kernel) rfl rfl rfl) jm_250 ⟨Nat.le_of_ble_eq_true rfl, by decide⟩ (jn_charAt hl hl2 ⟨by omega, by omega⟩) ?_
      refine jr_1 jm_249 (show jw_cd cd_249 13 = some (.ifCond .le 9) by decide +kernel) (mz_t (q := .le) (a := l.getD (j).toNat 0) (t := 22) (by show l.getD (j).toNat 0 ≤ 0; omega) ⟨by omega, by omega⟩ (by decide) (by decide)) ?_
      refine jr_1 jm_249 (show jw_cd cd_249 22 = some (.iload_n 2) by decide +kernel) rfl ?_
      exact jr_v jm_249 (show jw_cd cd_249 23 = some (.ireturn) by decide +kernel) rfl
  | succ s ih =>
    intro j h0 hs
    have hc : 1 ≤ l.getD j.toNat 0 ∧ l.getD j.toNat 0 ≤ 127 := by
      have hlt : j.toNat < l.length := by omega
      rw [List.getD_eq_getElem?_getD, List.getElem?_eq_getElem hlt]
      exact hl2.2 _ (List.getElem_mem hlt)
    refine jr_1 jm_249 (show jw_cd cd_249 2 = some (.iload_n 2) by decide +kernel) rfl ?_
    refine jr_1 jm_249 (show jw_cd cd_249 3 = some (.bipush 7) by decide +kernel) (mt_bi (by decide)) ?_
    refine jr_1 jm_249 (show jw_cd cd_249 5 = some (.if_icmp .ge 17) by decide +kernel) (mb_f (q := .ge) (a := j) (b := 7) (by show ¬ (7 ≤ j); omega) ⟨by omega, by omega⟩ ⟨by omega, by omega⟩ (by decide)) ?_
    refine jr_1 jm_249 (show jw_cd cd_249 8 = some (.lload_n 0) by decide +kernel) rfl ?_
    refine jr_1 jm_249 (show jw_cd cd_249 9 = some (.iload_n 2) by decide +kernel) rfl ?_
    refine jr_c jm_249 (show jw_cd cd_249 10 = some (.invokestatic 138) by decide +kernel) (mc_s (n := 2) (m2 := 250) (bs := [.long (Int64.ofInt (pk l)), .int (Int32.ofInt (j))]) (r := []) (by decide) (show jw_find jw_csT 34 138 = some (250, 2) by decide +kernel) rfl rfl rfl) jm_250 ⟨Nat.le_of_ble_eq_true rfl, by decide⟩ (jn_charAt hl hl2 ⟨by omega, by omega⟩) ?_
    refine jr_1 jm_249 (show jw_cd cd_249 13 = some (.ifCond .le 9) by decide +kernel) (mz_f (q := .le) (a := l.getD (j).toNat 0) (by show ¬ (l.getD (j).toNat 0 ≤ 0); omega) ⟨by omega, by omega⟩ (by decide)) ?_
    refine jr_1 jm_249 (F2 := (19, [some (.long (Int64.ofInt (pk l))), none, some (.int (Int32.ofInt (j + 1)))], [], ml_mk h σ)) (show jw_cd cd_249 16 = some (.iinc 2 1) by decide +kernel) (mt_inc (a := j) (c := j + 1) rfl (by omega) rfl) ?_
    refine jr_1 jm_249 (show jw_cd cd_249 19 = some (.goto (-17)) by decide +kernel) (ju_go (t := 2) (by decide)) ?_
    exact ih (j + 1) (by omega) (by omega)
theorem jn_lengthOf {β : Bool} {d : Nat} {h : jx_H} {σ : mS} (hl : 49 ≤ h.length) {l : List Int} (hl2 : tx l) : jx_r (jz β) jw_M (d + 1) 249 (0, [some (.long (Int64.ofInt (pk l))), none, none], [], ml_mk h σ) (ml_mk h (σ), .inl (some (.int (Int32.ofInt ((l.length : Int)))))) := by
  refine jr_1 jm_249 (show jw_cd cd_249 0 = some (.iconst 0) by decide +kernel) rfl ?_
  refine jr_1 jm_249 (F2 := (2, [some (.long (Int64.ofInt (pk l))), none, some (.int (Int32.ofInt (0)))], [], ml_mk h σ)) (show jw_cd cd_249 1 = some (.istore_n 2) by decide +kernel) rfl ?_
  exact jn_len_loop hl hl2 l.length 0 (by omega) (by omega)
/-- the first one with this key -/
def fget (s : List Int) : FT → Option (tI × FT)
  | .leaf => none
  | .inner _ i _ c n => if i.2.2.2 = s then some (i, c) else fget s n
/-- every text and key of a forest is one -/
def fok : FT → Prop
  | .leaf => True
  | .inner _ i _ c n => tx i.2.2.1 ∧ tx i.2.2.2 ∧ mr i.1 ∧ mr i.2.1 ∧ fok c ∧ fok n
/-- a number names the node of what is found, or is -1 -/
def mO (σ : mS) (A B : Int → Prop) (w : Int) : Option (tI × FT) → Prop
  | none => w = -1
  | some (i, c) => mV σ A B w i c
theorem jn_child_loop {β : Bool} {d : Nat} {h : jx_H} {σ : mS} (hl : 49 ≤ h.length) {A B : Int → Prop} (hA : mIx A) (hB : mIx B) {v : Int} {s : List Int} (hs : tx s) : ∀ (F : FT) (x : Int), fok F → mF σ A B F x → ∃ w, jx_r (jz β) jw_M (d) 256 (21, [some (.ref 15), some (.int (Int32.ofInt (v))), some (.long (Int64.ofInt (pk s))), none, some (.int (Int32.ofInt (x)))], [], ml_mk h σ) (ml_mk h (σ), .inl (some (.int (Int32.ofInt (w))))) ∧ mO σ A B w (fget s F)
  | .leaf, x, _, hx => by
    have hx : x = -1 := hx
    subst hx
    refine ⟨-1, ?_, rfl⟩
    refine jr_1 jm_256 (show jw_cd cd_256 21 = some (.iload 4) by decide +kernel) rfl ?_
    refine jr_1 jm_256 (show jw_cd cd_256 23 = some (.iconst (-1)) by decide +kernel) rfl ?_
    refine jr_1 jm_256 (show jw_cd cd_256 24 = some (.if_icmp .eq 35) by decide +kernel) (mb_t (q := .eq) (a := -1) (b := -1) (t := 59) (by show -1 = -1; omega) ⟨by omega, by omega⟩ ⟨by omega, by omega⟩ (by decide) (by decide)) ?_
    refine jr_1 jm_256 (show jw_cd cd_256 59 = some (.iconst (-1)) by decide +kernel) rfl ?_
    exact jr_v jm_256 (show jw_cd cd_256 60 = some (.ireturn) by decide +kernel) rfl
  | .inner s0 i u0 c n, x, ho, hx => by
    obtain ⟨b1, a1, hkey, hN, hc, hn⟩ := hx
    obtain ⟨t1, t2, -, -, o1, o2⟩ := ho
    have bx := hB x b1
    have av := hA _ a1
    by_cases hp : pk i.2.2.2 = pk s
    · refine ⟨σ 8 x, ?_, ?_⟩
      · skip
        refine jr_1 jm_256 (show jw_cd cd_256 21 = some (.iload 4) by decide +kernel) rfl ?_
        refine jr_1 jm_256 (show jw_cd cd_256 23 = some (.iconst (-1)) by decide +kernel) rfl ?_
        refine jr_1 jm_256 (show jw_cd cd_256 24 = some (.if_icmp .eq 35) by decide +kernel) (mb_f (q := .eq) (a := x) (b := -1) (by show ¬ (x = -1); omega) ⟨by omega, by omega⟩ ⟨by omega, by omega⟩ (by decide)) ?_
        refine jr_1 jm_256 (show jw_cd cd_256 27 = some (.aload_n 0) by decide +kernel) rfl ?_
        refine jr_1 jm_256 (show jw_cd cd_256 28 = some (.getfield 32) by decide +kernel) (mg_a hl (a := 23) (show jw_fld 34 32 16 = some 9 by decide +kernel) (by decide) (by decide)) ?_
        refine jr_1 jm_256 (show jw_cd cd_256 31 = some (.iload 4) by decide +kernel) rfl ?_
        refine jr_1 jm_256 (show jw_cd cd_256 33 = some (.laload) by decide +kernel) (ma_j hl (i := x) (e := pk i.2.2.2) 9 (by omega) (by show _ < ((1740 : Nat) : Int); omega) hkey (by decide) (by decide) (by decide)) ?_
        refine jr_1 jm_256 (show jw_cd cd_256 34 = some (.lload_n 2) by decide +kernel) rfl ?_
        refine jr_1 jm_256 (show jw_cd cd_256 35 = some (.lcmp) by decide +kernel) (mt_cmp (r := 0) ⟨by have := (pk_b t2).1; omega, by have := (pk_b t2).2; omega⟩ ⟨by have := (pk_b hs).1; omega, by have := (pk_b hs).2; omega⟩ (by rw [if_neg (by omega), if_pos hp])) ?_
        refine jr_1 jm_256 (show jw_cd cd_256 36 = some (.ifCond .ne 11) by decide +kernel) (mz_f (q := .ne) (a := 0) (by show ¬ (¬ (0 = 0)); omega) ⟨by omega, by omega⟩ (by decide)) ?_
        refine jr_1 jm_256 (show jw_cd cd_256 39 = some (.aload_n 0) by decide +kernel) rfl ?_
        refine jr_1 jm_256 (show jw_cd cd_256 40 = some (.getfield 29) by decide +kernel) (mg_a hl (a := 22) (show jw_fld 34 29 16 = some 8 by decide +kernel) (by decide) (by decide)) ?_
        refine jr_1 jm_256 (show jw_cd cd_256 43 = some (.iload 4) by decide +kernel) rfl ?_
        refine jr_1 jm_256 (show jw_cd cd_256 45 = some (.iaload) by decide +kernel) (ma_i hl (i := x) (e := σ 8 (x)) 8 (by omega) (by show _ < ((1740 : Nat) : Int); omega) rfl (by decide) (by decide) (by decide)) ?_
        exact jr_v jm_256 (show jw_cd cd_256 46 = some (.ireturn) by decide +kernel) rfl
      · show mO σ A B (σ 8 x) (if i.2.2.2 = s then some (i, c) else fget s n)
        rw [if_pos ((pk_inj t2 hs).mp hp)]
        exact ⟨a1, hN, hc⟩
    · obtain ⟨w, r1, r2⟩ := jn_child_loop (β := β) (d := d) (v := v) hl hA hB hs n (σ 10 x) o2 hn
      refine ⟨w, ?_, ?_⟩
      · skip
        refine jr_1 jm_256 (show jw_cd cd_256 21 = some (.iload 4) by decide +kernel) rfl ?_
        refine jr_1 jm_256 (show jw_cd cd_256 23 = some (.iconst (-1)) by decide +kernel) rfl ?_
        refine jr_1 jm_256 (show jw_cd cd_256 24 = some (.if_icmp .eq 35) by decide +kernel) (mb_f (q := .eq) (a := x) (b := -1) (by show ¬ (x = -1); omega) ⟨by omega, by omega⟩ ⟨by omega, by omega⟩ (by decide)) ?_
        refine jr_1 jm_256 (show jw_cd cd_256 27 = some (.aload_n 0) by decide +kernel) rfl ?_
        refine jr_1 jm_256 (show jw_cd cd_256 28 = some (.getfield 32) by decide +kernel) (mg_a hl (a := 23) (show jw_fld 34 32 16 = some 9 by decide +kernel) (by decide) (by decide)) ?_
        refine jr_1 jm_256 (show jw_cd cd_256 31 = some (.iload 4) by decide +kernel) rfl ?_
        refine jr_1 jm_256 (show jw_cd cd_256 33 = some (.laload) by decide +kernel) (ma_j hl (i := x) (e := pk i.2.2.2) 9 (by omega) (by show _ < ((1740 : Nat) : Int); omega) hkey (by decide) (by decide) (by decide)) ?_
        refine jr_1 jm_256 (show jw_cd cd_256 34 = some (.lload_n 2) by decide +kernel) rfl ?_
        refine jr_1 jm_256 (show jw_cd cd_256 35 = some (.lcmp) by decide +kernel) (mt_cmp (r := (if pk i.2.2.2 < pk s then -1 else if pk i.2.2.2 = pk s then 0 else 1)) ⟨by have := (pk_b t2).1; omega, by have := (pk_b t2).2; omega⟩ ⟨by have := (pk_b hs).1; omega, by have := (pk_b hs).2; omega⟩ rfl) ?_
        have hne0 : ¬ (if pk i.2.2.2 < pk s then (-1 : Int) else if pk i.2.2.2 = pk s then 0 else 1) = 0 ∧ (if pk i.2.2.2 < pk s then (-1 : Int) else if pk i.2.2.2 = pk s then 0 else 1) ≤ 1 ∧ -1 ≤ (if pk i.2.2.2 < pk s then (-1 : Int) else if pk i.2.2.2 = pk s then 0 else 1) := by
          rw [if_neg hp]
          split <;> omega
        refine jr_1 jm_256 (show jw_cd cd_256 36 = some (.ifCond .ne 11) by decide +kernel) (mz_t (q := .ne) (a := (if pk i.2.2.2 < pk s then -1 else if pk i.2.2.2 = pk s then 0 else 1)) (t := 47) hne0.1 ⟨by have := hne0.2.2; omega, by have := hne0.2.1; omega⟩ (by decide) (by decide)) ?_
        refine jr_1 jm_256 (show jw_cd cd_256 47 = some (.aload_n 0) by decide +kernel) rfl ?_
        refine jr_1 jm_256 (show jw_cd cd_256 48 = some (.getfield 35) by decide +kernel) (mg_a hl (a := 24) (show jw_fld 34 35 16 = some 10 by decide +kernel) (by decide) (by decide)) ?_
        refine jr_1 jm_256 (show jw_cd cd_256 51 = some (.iload 4) by decide +kernel) rfl ?_
        refine jr_1 jm_256 (show jw_cd cd_256 53 = some (.iaload) by decide +kernel) (ma_i hl (i := x) (e := σ 10 (x)) 10 (by omega) (by show _ < ((1740 : Nat) : Int); omega) rfl (by decide) (by decide) (by decide)) ?_
        refine jr_1 jm_256 (F2 := (56, [some (.ref 15), some (.int (Int32.ofInt (v))), some (.long (Int64.ofInt (pk s))), none, some (.int (Int32.ofInt (σ 10 (x))))], [], ml_mk h σ)) (show jw_cd cd_256 54 = some (.istore 4) by decide +kernel) rfl ?_
        refine jr_1 jm_256 (show jw_cd cd_256 56 = some (.goto (-35)) by decide +kernel) (ju_go (t := 21) (by decide)) ?_
        exact r1
      · show mO σ A B w (if i.2.2.2 = s then some (i, c) else fget s n)
        rw [if_neg (fun e => hp (by rw [e]))]
        exact r2
/-- what a key finds in a value -/
def vget (s : List Int) (i : tI) (F : FT) : Option (tI × FT) := if i.1 = 6 then fget s F else none
theorem jn_child {β : Bool} {d : Nat} {h : jx_H} {σ : mS} (hl : 49 ≤ h.length) {A B : Int → Prop} (hA : mIx A) (hB : mIx B) {v : Int} {s : List Int} (hs : tx s) {i : tI} {F : FT} (hi : mr i.1) (ho : fok F) (hV : mV σ A B v i F) : ∃ w, jx_r (jz β) jw_M (d) 256 (0, [some (.ref 15), some (.int (Int32.ofInt (v))), some (.long (Int64.ofInt (pk s))), none, none], [], ml_mk h σ) (ml_mk h (σ), .inl (some (.int (Int32.ofInt (w))))) ∧ mO σ A B w (vget s i F) := by
  obtain ⟨a1, ⟨n3, n4, n5, n7⟩, hF⟩ := hV
  have av := hA _ a1
  obtain ⟨i1, i2⟩ := hi
  unfold vget
  by_cases hk : i.1 = 6
  · rw [if_pos hk]
    obtain ⟨w, r1, r2⟩ := jn_child_loop (β := β) (d := d) (v := v) hl hA hB hs F (σ 6 v) ho hF
    refine ⟨w, ?_, r2⟩
    refine jr_1 jm_256 (show jw_cd cd_256 0 = some (.aload_n 0) by decide +kernel) rfl ?_
    refine jr_1 jm_256 (show jw_cd cd_256 1 = some (.getfield 13) by decide +kernel) (mg_a hl (a := 17) (show jw_fld 34 13 16 = some 3 by decide +kernel) (by decide) (by decide)) ?_
    refine jr_1 jm_256 (show jw_cd cd_256 4 = some (.iload_n 1) by decide +kernel) rfl ?_
    refine jr_1 jm_256 (show jw_cd cd_256 5 = some (.iaload) by decide +kernel) (ma_i hl (i := v) (e := i.1) 3 (by omega) (by show _ < ((1740 : Nat) : Int); omega) n3 (by decide) (by decide) (by decide)) ?_
    refine jr_1 jm_256 (show jw_cd cd_256 6 = some (.bipush 6) by decide +kernel) (mt_bi (by decide)) ?_
    refine jr_1 jm_256 (show jw_cd cd_256 8 = some (.if_icmp .eq 5) by decide +kernel) (mb_t (q := .eq) (a := i.1) (b := 6) (t := 13) hk ⟨by omega, by omega⟩ ⟨by omega, by omega⟩ (by decide) (by decide)) ?_
    refine jr_1 jm_256 (show jw_cd cd_256 13 = some (.aload_n 0) by decide +kernel) rfl ?_
    refine jr_1 jm_256 (show jw_cd cd_256 14 = some (.getfield 23) by decide +kernel) (mg_a hl (a := 20) (show jw_fld 34 23 16 = some 6 by decide +kernel) (by decide) (by decide)) ?_
    refine jr_1 jm_256 (show jw_cd cd_256 17 = some (.iload_n 1) by decide +kernel) rfl ?_
    refine jr_1 jm_256 (show jw_cd cd_256 18 = some (.iaload) by decide +kernel) (ma_i hl (i := v) (e := σ 6 (v)) 6 (by omega) (by show _ < ((1740 : Nat) : Int); omega) rfl (by decide) (by decide) (by decide)) ?_
    refine jr_1 jm_256 (F2 := (21, [some (.ref 15), some (.int (Int32.ofInt (v))), some (.long (Int64.ofInt (pk s))), none, some (.int (Int32.ofInt (σ 6 (v))))], [], ml_mk h σ)) (show jw_cd cd_256 19 = some (.istore 4) by decide +kernel) rfl ?_
    exact r1
  · rw [if_neg hk]
    refine ⟨-1, ?_, rfl⟩
    refine jr_1 jm_256 (show jw_cd cd_256 0 = some (.aload_n 0) by decide +kernel) rfl ?_
    refine jr_1 jm_256 (show jw_cd cd_256 1 = some (.getfield 13) by decide +kernel) (mg_a hl (a := 17) (show jw_fld 34 13 16 = some 3 by decide +kernel) (by decide) (by decide)) ?_
    refine jr_1 jm_256 (show jw_cd cd_256 4 = some (.iload_n 1) by decide +kernel) rfl ?_
    refine jr_1 jm_256 (show jw_cd cd_256 5 = some (.iaload) by decide +kernel) (ma_i hl (i := v) (e := i.1) 3 (by omega) (by show _ < ((1740 : Nat) : Int); omega) n3 (by decide) (by decide) (by decide)) ?_
    refine jr_1 jm_256 (show jw_cd cd_256 6 = some (.bipush 6) by decide +kernel) (mt_bi (by decide)) ?_
    refine jr_1 jm_256 (show jw_cd cd_256 8 = some (.if_icmp .eq 5) by decide +kernel) (mb_f (q := .eq) (a := i.1) (b := 6) hk ⟨by omega, by omega⟩ ⟨by omega, by omega⟩ (by decide)) ?_
    refine jr_1 jm_256 (show jw_cd cd_256 11 = some (.iconst (-1)) by decide +kernel) rfl ?_
    exact jr_v jm_256 (show jw_cd cd_256 12 = some (.ireturn) by decide +kernel) rfl
/-- the k-th one -/
def fnth : FT → Nat → Option (tI × FT)
  | .leaf, _ => none
  | .inner _ i _ c _, 0 => some (i, c)
  | .inner _ _ _ _ n, k + 1 => fnth n k
theorem jn_el_loop {β : Bool} {d : Nat} {h : jx_H} {σ : mS} (hl : 49 ≤ h.length) {A B : Int → Prop} (hA : mIx A) (hB : mIx B) {v kk : Int} (hkk : 0 ≤ kk ∧ kk < 1740) : ∀ (F : FT) (s : Nat) (x j : Int), mF σ A B F x → s < fsz F → j + s = kk → 0 ≤ j → ∃ w i c, jx_r (jz β) jw_M (d) 267 (10, [some (.ref 15), some (.int (Int32.ofInt (v))), some (.int (Int32.ofInt (kk))), some (.int (Int32.ofInt (x))), some (.int (Int32.ofInt (j)))], [], ml_mk h σ) (ml_mk h (σ), .inl (some (.int (Int32.ofInt (w))))) ∧ fnth F s = some (i, c) ∧ mV σ A B w i c
  | .leaf, s, x, j, _, hs, _, _ => absurd hs (Nat.not_lt_zero s)
  | .inner s0 i u0 c n, 0, x, j, hx, hs, hj, h0 => by
    obtain ⟨b1, a1, hkey, hN, hc, hn⟩ := hx
    have bx := hB x b1
    have av := hA _ a1
    refine ⟨σ 8 x, i, c, ?_, rfl, a1, hN, hc⟩
    refine jr_1 jm_267 (show jw_cd cd_267 10 = some (.iload 4) by decide +kernel) rfl ?_
    refine jr_1 jm_267 (show jw_cd cd_267 12 = some (.iload_n 2) by decide +kernel) rfl ?_
    refine jr_1 jm_267 (show jw_cd cd_267 13 = some (.if_icmp .ge 16) by decide +kernel) (mb_t (q := .ge) (a := j) (b := kk) (t := 29) (by show kk ≤ j; omega) ⟨by omega, by omega⟩ ⟨by omega, by omega⟩ (by decide) (by decide)) ?_
    refine jr_1 jm_267 (show jw_cd cd_267 29 = some (.aload_n 0) by decide +kernel) rfl ?_
    refine jr_1 jm_267 (show jw_cd cd_267 30 = some (.getfield 29) by decide +kernel) (mg_a hl (a := 22) (show jw_fld 34 29 16 = some 8 by decide +kernel) (by decide) (by decide)) ?_
    refine jr_1 jm_267 (show jw_cd cd_267 33 = some (.iload_n 3) by decide +kernel) rfl ?_
    refine jr_1 jm_267 (show jw_cd cd_267 34 = some (.iaload) by decide +kernel) (ma_i hl (i := x) (e := σ 8 (x)) 8 (by omega) (by show _ < ((1740 : Nat) : Int); omega) rfl (by decide) (by decide) (by decide)) ?_
    exact jr_v jm_267 (show jw_cd cd_267 35 = some (.ireturn) by decide +kernel) rfl
  | .inner s0 i u0 c n, s + 1, x, j, hx, hs, hj, h0 => by
    obtain ⟨b1, a1, hkey, hN, hc, hn⟩ := hx
    have bx := hB x b1
    obtain ⟨w, i2, c2, r1, r2, r3⟩ := jn_el_loop (β := β) (d := d) (v := v) hl hA hB hkk n s (σ 10 x) (j + 1) hn (Nat.lt_of_succ_lt_succ hs) (by omega) (by omega)
    refine ⟨w, i2, c2, ?_, r2, r3⟩
    refine jr_1 jm_267 (show jw_cd cd_267 10 = some (.iload 4) by decide +kernel) rfl ?_
    refine jr_1 jm_267 (show jw_cd cd_267 12 = some (.iload_n 2) by decide +kernel) rfl ?_
    refine jr_1 jm_267 (show jw_cd cd_267 13 = some (.if_icmp .ge 16) by decide +kernel) (mb_f (q := .ge) (a := j) (b := kk) (by show ¬ (kk ≤ j); omega) ⟨by omega, by omega⟩ ⟨by omega, by omega⟩ (by decide)) ?_
    refine jr_1 jm_267 (show jw_cd cd_267 16 = some (.aload_n 0) by decide +kernel) rfl ?_
    refine jr_1 jm_267 (show jw_cd cd_267 17 = some (.getfield 35) by decide +kernel) (mg_a hl (a := 24) (show jw_fld 34 35 16 = some 10 by decide +kernel) (by decide) (by decide)) ?_
    refine jr_1 jm_267 (show jw_cd cd_267 20 = some (.iload_n 3) by decide +kernel) rfl ?_
    refine jr_1 jm_267 (show jw_cd cd_267 21 = some (.iaload) by decide +kernel) (ma_i hl (i := x) (e := σ 10 (x)) 10 (by omega) (by show _ < ((1740 : Nat) : Int); omega) rfl (by decide) (by decide) (by decide)) ?_
    refine jr_1 jm_267 (F2 := (23, [some (.ref 15), some (.int (Int32.ofInt (v))), some (.int (Int32.ofInt (kk))), some (.int (Int32.ofInt (σ 10 (x)))), some (.int (Int32.ofInt (j)))], [], ml_mk h σ)) (show jw_cd cd_267 22 = some (.istore_n 3) by decide +kernel) rfl ?_
    refine jr_1 jm_267 (F2 := (26, [some (.ref 15), some (.int (Int32.ofInt (v))), some (.int (Int32.ofInt (kk))), some (.int (Int32.ofInt (σ 10 (x)))), some (.int (Int32.ofInt (j + 1)))], [], ml_mk h σ)) (show jw_cd cd_267 23 = some (.iinc 4 1) by decide +kernel) (mt_inc (a := j) (c := j + 1) rfl (by omega) rfl) ?_
    refine jr_1 jm_267 (show jw_cd cd_267 26 = some (.goto (-16)) by decide +kernel) (ju_go (t := 10) (by decide)) ?_
    exact r1
theorem jn_element {β : Bool} {d : Nat} {h : jx_H} {σ : mS} (hl : 49 ≤ h.length) {A B : Int → Prop} (hA : mIx A) (hB : mIx B) {v : Int} {s : Nat} {i : tI} {F : FT} (hV : mV σ A B v i F) (hs : s < fsz F) (h17 : s < 1740) : ∃ w i c, jx_r (jz β) jw_M (d) 267 (0, [some (.ref 15), some (.int (Int32.ofInt (v))), some (.int (Int32.ofInt ((s : Int)))), none, none], [], ml_mk h σ) (ml_mk h (σ), .inl (some (.int (Int32.ofInt (w))))) ∧ fnth F s = some (i, c) ∧ mV σ A B w i c := by
  obtain ⟨a1, hN, hF⟩ := hV
  have av := hA _ a1
  obtain ⟨w, i2, c2, r1, r2, r3⟩ := jn_el_loop (β := β) (d := d) (v := v) (kk := (s : Int)) hl hA hB ⟨by omega, by omega⟩ F s (σ 6 v) 0 hF hs (by omega) (by omega)
  refine ⟨w, i2, c2, ?_, r2, r3⟩
  refine jr_1 jm_267 (show jw_cd cd_267 0 = some (.aload_n 0) by decide +kernel) rfl ?_
  refine jr_1 jm_267 (show jw_cd cd_267 1 = some (.getfield 23) by decide +kernel) (mg_a hl (a := 20) (show jw_fld 34 23 16 = some 6 by decide +kernel) (by decide) (by decide)) ?_
  refine jr_1 jm_267 (show jw_cd cd_267 4 = some (.iload_n 1) by decide +kernel) rfl ?_
  refine jr_1 jm_267 (show jw_cd cd_267 5 = some (.iaload) by decide +kernel) (ma_i hl (i := v) (e := σ 6 (v)) 6 (by omega) (by show _ < ((1740 : Nat) : Int); omega) rfl (by decide) (by decide) (by decide)) ?_
  refine jr_1 jm_267 (F2 := (7, [some (.ref 15), some (.int (Int32.ofInt (v))), some (.int (Int32.ofInt ((s : Int)))), some (.int (Int32.ofInt (σ 6 (v)))), none], [], ml_mk h σ)) (show jw_cd cd_267 6 = some (.istore_n 3) by decide +kernel) rfl ?_
  refine jr_1 jm_267 (show jw_cd cd_267 7 = some (.iconst 0) by decide +kernel) rfl ?_
  refine jr_1 jm_267 (F2 := (10, [some (.ref 15), some (.int (Int32.ofInt (v))), some (.int (Int32.ofInt ((s : Int)))), some (.int (Int32.ofInt (σ 6 (v)))), some (.int (Int32.ofInt (0)))], [], ml_mk h σ)) (show jw_cd cd_267 8 = some (.istore 4) by decide +kernel) rfl ?_
  exact r1

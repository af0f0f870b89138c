/-! ===== the model's sort: of what kind are the elements (printed by program: gen40.py) ===== -/
/-- what an element is sorted by -/
def vrank (s : List Int) (i : tI) (c : FT) : Option (tI × FT) := if s = [] then some (i, c) else vget s i c
def rkind (s : List Int) (i : tI) (c : FT) : Int := match vrank s i c with
  | none => 0
  | some (j, _) => j.1
def fsort (s : List Int) : Int → FT → Int
  | k, .leaf => k
  | k, .inner _ i _ c n => if (¬ rkind s i c = 3 ∧ ¬ rkind s i c = 4) ∨ (¬ k = 0 ∧ ¬ k = rkind s i c) then -1 else fsort s (rkind s i c) n
theorem pk_0 {s : List Int} (h : tx s) : pk s = 0 ↔ s = [] := pk_inj h tx_nil
theorem fget_ok {s : List Int} : ∀ (F : FT) (j : tI) (E : FT), fwf F → fget s F = some (j, E) → iok j ∧ fwf E
  | .leaf, _, _, _, h => by cases h
  | .inner _ i _ c n, j, E, hw, h => by
    have h : (if i.2.2.2 = s then some (i, c) else fget s n) = some (j, E) := h
    split at h
    · cases h
      exact ⟨hw.1, hw.2.1⟩
    · exact fget_ok n j E hw.2.2 h
theorem vrank_ok {s : List Int} {i : tI} {c : FT} (hi : iok i) (hc : fwf c) {j : tI} {E : FT} (h : vrank s i c = some (j, E)) : iok j ∧ fwf E := by
  unfold vrank at h
  split at h
  · cases h
    exact ⟨hi, hc⟩
  · unfold vget at h
    split at h
    · exact fget_ok c j E hc h
    · cases h
theorem jn_so_rank {β : Bool} {d : Nat} {h : jx_H} {σ : mS} (hl : 49 ≤ h.length) {A B : Int → Prop} (hA : mIx A) (hB : mIx B) {v kk x : Int} {s : List Int} (hs : tx s) {i : tI} {c : FT} (hi : iok i) (hc : fwf c) (hx : 0 ≤ x ∧ x < 1740) (hV : mV σ A B (σ 8 x) i c) {c6 c7 : Option Value} : ∃ w, (∀ res, jx_r (jz β) jw_M (d + 1) 255 (47, [some (.ref 15), some (.int (Int32.ofInt (v))), some (.long (Int64.ofInt (pk s))), none, some (.int (Int32.ofInt (kk))), some (.int (Int32.ofInt (x))), some (.int (Int32.ofInt (w))), c7], [], ml_mk h σ) res → jx_r (jz β) jw_M (d + 1) 255 (17, [some (.ref 15), some (.int (Int32.ofInt (v))), some (.long (Int64.ofInt (pk s))), none, some (.int (Int32.ofInt (kk))), some (.int (Int32.ofInt (x))), c6, c7], [], ml_mk h σ) res) ∧ mO σ A B w (vrank s i c) := by
  obtain ⟨x0, x1⟩ := hx
  by_cases h0 : pk s = 0
  · refine ⟨σ 8 x, fun res kq => ?_, ?_⟩
    · skip
      refine jr_1 jm_255 (show jw_cd cd_255 17 = some (.lload_n 2) by decide +kernel) rfl ?_
      refine jr_1 jm_255 (F2 := (19, [some (.ref 15), some (.int (Int32.ofInt (v))), some (.long (Int64.ofInt (pk s))), none, some (.int (Int32.ofInt (kk))), some (.int (Int32.ofInt (x))), c6, c7], [.long (Int64.ofInt (0)), .long (Int64.ofInt (pk s))], ml_mk h σ)) (show jw_cd cd_255 18 = some (.lconst 0) by decide +kernel) rfl ?_
      refine jr_1 jm_255 (show jw_cd cd_255 19 = some (.lcmp) by decide +kernel) (mt_cmp (r := 0) ⟨by have := (pk_b hs).1; omega, by have := (pk_b hs).2; omega⟩ ⟨by decide, by decide⟩ (by rw [if_neg (by omega), if_pos h0])) ?_
      refine jr_1 jm_255 (show jw_cd cd_255 20 = some (.ifCond .ne 13) by decide +kernel) (mz_f (q := .ne) (a := 0) (by show ¬ (¬ (0 = 0)); omega) ⟨by omega, by omega⟩ (by decide)) ?_
      refine jr_1 jm_255 (show jw_cd cd_255 23 = some (.aload_n 0) by decide +kernel) rfl ?_
      refine jr_1 jm_255 (show jw_cd cd_255 24 = some (.getfield 29) by decide +kernel) (mg_a hl (a := 22) (show jw_fld 34 29 16 = some 8 by decide +kernel) (by decide) (by decide)) ?_
      refine jr_1 jm_255 (show jw_cd cd_255 27 = some (.iload 5) by decide +kernel) rfl ?_
      refine jr_1 jm_255 (show jw_cd cd_255 29 = some (.iaload) by decide +kernel) (ma_i hl (i := x) (e := σ 8 (x)) 8 (by omega) (by show _ < ((1740 : Nat) : Int); omega) rfl (by decide) (by decide) (by decide)) ?_
      refine jr_1 jm_255 (show jw_cd cd_255 30 = some (.goto 15) by decide +kernel) (ju_go (t := 45) (by decide)) ?_
      refine jr_1 jm_255 (F2 := (47, [some (.ref 15), some (.int (Int32.ofInt (v))), some (.long (Int64.ofInt (pk s))), none, some (.int (Int32.ofInt (kk))), some (.int (Int32.ofInt (x))), some (.int (Int32.ofInt (σ 8 (x)))), c7], [], ml_mk h σ)) (show jw_cd cd_255 45 = some (.istore 6) by decide +kernel) rfl ?_
      exact kq
    · rw [show vrank s i c = some (i, c) from if_pos ((pk_0 hs).mp h0)]
      exact hV
  · obtain ⟨w, r1, r2⟩ := jn_child (β := β) (d := d) hl hA hB hs ⟨by have := hi.1; omega, by have := hi.2.1; omega⟩ (fwf_ok c hc) hV
    refine ⟨w, fun res kq => ?_, ?_⟩
    · skip
      refine jr_1 jm_255 (show jw_cd cd_255 17 = some (.lload_n 2) by decide +kernel) rfl ?_
      refine jr_1 jm_255 (F2 := (19, [some (.ref 15), some (.int (Int32.ofInt (v))), some (.long (Int64.ofInt (pk s))), none, some (.int (Int32.ofInt (kk))), some (.int (Int32.ofInt (x))), c6, c7], [.long (Int64.ofInt (0)), .long (Int64.ofInt (pk s))], ml_mk h σ)) (show jw_cd cd_255 18 = some (.lconst 0) by decide +kernel) rfl ?_
      refine jr_1 jm_255 (show jw_cd cd_255 19 = some (.lcmp) by decide +kernel) (mt_cmp (r := 1) ⟨by have := (pk_b hs).1; omega, by have := (pk_b hs).2; omega⟩ ⟨by decide, by decide⟩ (by rw [if_neg (by have := (pk_b hs).1; omega), if_neg h0])) ?_
      refine jr_1 jm_255 (show jw_cd cd_255 20 = some (.ifCond .ne 13) by decide +kernel) (mz_t (q := .ne) (a := 1) (t := 33) (by show ¬ (1 = 0); omega) ⟨by omega, by omega⟩ (by decide) (by decide)) ?_
      refine jr_1 jm_255 (show jw_cd cd_255 33 = some (.aload_n 0) by decide +kernel) rfl ?_
      refine jr_1 jm_255 (show jw_cd cd_255 34 = some (.aload_n 0) by decide +kernel) rfl ?_
      refine jr_1 jm_255 (show jw_cd cd_255 35 = some (.getfield 29) by decide +kernel) (mg_a hl (a := 22) (show jw_fld 34 29 16 = some 8 by decide +kernel) (by decide) (by decide)) ?_
      refine jr_1 jm_255 (show jw_cd cd_255 38 = some (.iload 5) by decide +kernel) rfl ?_
      refine jr_1 jm_255 (show jw_cd cd_255 40 = some (.iaload) by decide +kernel) (ma_i hl (i := x) (e := σ 8 (x)) 8 (by omega) (by show _ < ((1740 : Nat) : Int); omega) rfl (by decide) (by decide) (by decide)) ?_
      refine jr_1 jm_255 (show jw_cd cd_255 41 = some (.lload_n 2) by decide +kernel) rfl ?_
      refine jr_c jm_255 (show jw_cd cd_255 42 = some (.invokevirtual 132) by decide +kernel) (mc_v hl (n := 2) (m2 := 256) (bs := [.int (Int32.ofInt (σ 8 (x))), .long (Int64.ofInt (pk s))]) (r := []) (show jw_find jw_cvT 34 132 = some (2, [(16, 256)]) by decide +kernel) (by decide) rfl rfl rfl) jm_256 ⟨Nat.le_of_ble_eq_true rfl, by decide⟩ r1 ?_
      refine jr_1 jm_255 (F2 := (47, [some (.ref 15), some (.int (Int32.ofInt (v))), some (.long (Int64.ofInt (pk s))), none, some (.int (Int32.ofInt (kk))), some (.int (Int32.ofInt (x))), some (.int (Int32.ofInt (w))), c7], [], ml_mk h σ)) (show jw_cd cd_255 45 = some (.istore 6) by decide +kernel) rfl ?_
      exact kq
    · rw [show vrank s i c = vget s i c from if_neg (fun e => h0 ((pk_0 hs).mpr e))]
      exact r2
theorem jn_so_its {β : Bool} {d : Nat} {h : jx_H} {σ : mS} (hl : 49 ≤ h.length) {A B : Int → Prop} (hA : mIx A) {v kk x w : Int} {s : List Int} {i : tI} {c : FT} (hO : mO σ A B w (vrank s i c)) {c7 : Option Value} : ∀ res, jx_r (jz β) jw_M (d + 1) 255 (66, [some (.ref 15), some (.int (Int32.ofInt (v))), some (.long (Int64.ofInt (pk s))), none, some (.int (Int32.ofInt (kk))), some (.int (Int32.ofInt (x))), some (.int (Int32.ofInt (w))), some (.int (Int32.ofInt (rkind s i c)))], [], ml_mk h σ) res → jx_r (jz β) jw_M (d + 1) 255 (47, [some (.ref 15), some (.int (Int32.ofInt (v))), some (.long (Int64.ofInt (pk s))), none, some (.int (Int32.ofInt (kk))), some (.int (Int32.ofInt (x))), some (.int (Int32.ofInt (w))), c7], [], ml_mk h σ) res := by
  intro res kq
  unfold rkind at kq
  cases hx : vrank s i c with
  | none =>
    rw [hx] at hO kq
    have hO : w = -1 := hO
    subst hO
    refine jr_1 jm_255 (show jw_cd cd_255 47 = some (.iload 6) by decide +kernel) rfl ?_
    refine jr_1 jm_255 (show jw_cd cd_255 49 = some (.iconst (-1)) by decide +kernel) rfl ?_
    refine jr_1 jm_255 (show jw_cd cd_255 50 = some (.if_icmp .ne 7) by decide +kernel) (mb_f (q := .ne) (a := -1) (b := -1) (by show ¬ (¬ (-1 = -1)); omega) ⟨by omega, by omega⟩ ⟨by omega, by omega⟩ (by decide)) ?_
    refine jr_1 jm_255 (show jw_cd cd_255 53 = some (.iconst 0) by decide +kernel) rfl ?_
    refine jr_1 jm_255 (show jw_cd cd_255 54 = some (.goto 10) by decide +kernel) (ju_go (t := 64) (by decide)) ?_
    refine jr_1 jm_255 (F2 := (66, [some (.ref 15), some (.int (Int32.ofInt (v))), some (.long (Int64.ofInt (pk s))), none, some (.int (Int32.ofInt (kk))), some (.int (Int32.ofInt (x))), some (.int (Int32.ofInt (-1))), some (.int (Int32.ofInt (0)))], [], ml_mk h σ)) (show jw_cd cd_255 64 = some (.istore 7) by decide +kernel) rfl ?_
    exact kq
  | some y =>
    obtain ⟨j, E⟩ := y
    rw [hx] at hO kq
    obtain ⟨a1, ⟨n3, -⟩, -⟩ := hO
    obtain ⟨w0, w1⟩ := hA _ a1
    refine jr_1 jm_255 (show jw_cd cd_255 47 = some (.iload 6) by decide +kernel) rfl ?_
    refine jr_1 jm_255 (show jw_cd cd_255 49 = some (.iconst (-1)) by decide +kernel) rfl ?_
    refine jr_1 jm_255 (show jw_cd cd_255 50 = some (.if_icmp .ne 7) by decide +kernel) (mb_t (q := .ne) (a := w) (b := -1) (t := 57) (by show ¬ (w = -1); omega) ⟨by omega, by omega⟩ ⟨by omega, by omega⟩ (by decide) (by decide)) ?_
    refine jr_1 jm_255 (show jw_cd cd_255 57 = some (.aload_n 0) by decide +kernel) rfl ?_
    refine jr_1 jm_255 (show jw_cd cd_255 58 = some (.getfield 13) by decide +kernel) (mg_a hl (a := 17) (show jw_fld 34 13 16 = some 3 by decide +kernel) (by decide) (by decide)) ?_
    refine jr_1 jm_255 (show jw_cd cd_255 61 = some (.iload 6) by decide +kernel) rfl ?_
    refine jr_1 jm_255 (show jw_cd cd_255 63 = some (.iaload) by decide +kernel) (ma_i hl (i := w) (e := j.1) 3 (by omega) (by show _ < ((1740 : Nat) : Int); omega) n3 (by decide) (by decide) (by decide)) ?_
    refine jr_1 jm_255 (F2 := (66, [some (.ref 15), some (.int (Int32.ofInt (v))), some (.long (Int64.ofInt (pk s))), none, some (.int (Int32.ofInt (kk))), some (.int (Int32.ofInt (x))), some (.int (Int32.ofInt (w))), some (.int (Int32.ofInt (j.1)))], [], ml_mk h σ)) (show jw_cd cd_255 64 = some (.istore 7) by decide +kernel) rfl ?_
    exact kq
theorem jn_so_go {β : Bool} {d : Nat} {h : jx_H} {σ : mS} (hl : 49 ≤ h.length) {v kk x w t : Int} {s : List Int} (hx : 0 ≤ x ∧ x < 1740) (hkk : 0 ≤ kk ∧ kk ≤ 6) (ht : t = 3 ∨ t = 4) (hke : ¬ kk = 0 → kk = t) : ∀ res, jx_r (jz β) jw_M (d + 1) 255 (11, [some (.ref 15), some (.int (Int32.ofInt (v))), some (.long (Int64.ofInt (pk s))), none, some (.int (Int32.ofInt (t))), some (.int (Int32.ofInt (σ 10 (x)))), some (.int (Int32.ofInt (w))), some (.int (Int32.ofInt (t)))], [], ml_mk h σ) res → jx_r (jz β) jw_M (d + 1) 255 (66, [some (.ref 15), some (.int (Int32.ofInt (v))), some (.long (Int64.ofInt (pk s))), none, some (.int (Int32.ofInt (kk))), some (.int (Int32.ofInt (x))), some (.int (Int32.ofInt (w))), some (.int (Int32.ofInt (t)))], [], ml_mk h σ) res := by
  obtain ⟨x0, x1⟩ := hx
  intro res kq
  by_cases h3 : t = 3
  · rcases ht with ht | ht
    · by_cases hz : kk = 0
      · skip
        refine jr_1 jm_255 (show jw_cd cd_255 66 = some (.iload 7) by decide +kernel) rfl ?_
        refine jr_1 jm_255 (show jw_cd cd_255 68 = some (.iconst 3) by decide +kernel) rfl ?_
        refine jr_1 jm_255 (show jw_cd cd_255 69 = some (.if_icmp .eq 9) by decide +kernel) (mb_t (q := .eq) (a := t) (b := 3) (t := 78) (by show t = 3; omega) ⟨by omega, by omega⟩ ⟨by omega, by omega⟩ (by decide) (by decide)) ?_
        refine jr_1 jm_255 (show jw_cd cd_255 78 = some (.iload 4) by decide +kernel) rfl ?_
        refine jr_1 jm_255 (show jw_cd cd_255 80 = some (.ifCond .eq 14) by decide +kernel) (mz_t (q := .eq) (a := kk) (t := 94) (by show kk = 0; omega) ⟨by omega, by omega⟩ (by decide) (by decide)) ?_
        refine jr_1 jm_255 (show jw_cd cd_255 94 = some (.iload 7) by decide +kernel) rfl ?_
        refine jr_1 jm_255 (F2 := (98, [some (.ref 15), some (.int (Int32.ofInt (v))), some (.long (Int64.ofInt (pk s))), none, some (.int (Int32.ofInt (t))), some (.int (Int32.ofInt (x))), some (.int (Int32.ofInt (w))), some (.int (Int32.ofInt (t)))], [], ml_mk h σ)) (show jw_cd cd_255 96 = some (.istore 4) by decide +kernel) rfl ?_
        refine jr_1 jm_255 (show jw_cd cd_255 98 = some (.iload 4) by decide +kernel) rfl ?_
        refine jr_1 jm_255 (show jw_cd cd_255 100 = some (.iconst (-1)) by decide +kernel) rfl ?_
        refine jr_1 jm_255 (show jw_cd cd_255 101 = some (.if_icmp .ne 5) by decide +kernel) (mb_t (q := .ne) (a := t) (b := -1) (t := 106) (by show ¬ (t = -1); omega) ⟨by omega, by omega⟩ ⟨by omega, by omega⟩ (by decide) (by decide)) ?_
        refine jr_1 jm_255 (show jw_cd cd_255 106 = some (.aload_n 0) by decide +kernel) rfl ?_
        refine jr_1 jm_255 (show jw_cd cd_255 107 = some (.getfield 35) by decide +kernel) (mg_a hl (a := 24) (show jw_fld 34 35 16 = some 10 by decide +kernel) (by decide) (by decide)) ?_
        refine jr_1 jm_255 (show jw_cd cd_255 110 = some (.iload 5) by decide +kernel) rfl ?_
        refine jr_1 jm_255 (show jw_cd cd_255 112 = some (.iaload) by decide +kernel) (ma_i hl (i := x) (e := σ 10 (x)) 10 (by omega) (by show _ < ((1740 : Nat) : Int); omega) rfl (by decide) (by decide) (by decide)) ?_
        refine jr_1 jm_255 (F2 := (115, [some (.ref 15), some (.int (Int32.ofInt (v))), some (.long (Int64.ofInt (pk s))), none, some (.int (Int32.ofInt (t))), some (.int (Int32.ofInt (σ 10 (x)))), some (.int (Int32.ofInt (w))), some (.int (Int32.ofInt (t)))], [], ml_mk h σ)) (show jw_cd cd_255 113 = some (.istore 5) by decide +kernel) rfl ?_
        refine jr_1 jm_255 (show jw_cd cd_255 115 = some (.goto (-104)) by decide +kernel) (ju_go (t := 11) (by decide)) ?_
        exact kq
      · have he : kk = t := hke hz
        refine jr_1 jm_255 (show jw_cd cd_255 66 = some (.iload 7) by decide +kernel) rfl ?_
        refine jr_1 jm_255 (show jw_cd cd_255 68 = some (.iconst 3) by decide +kernel) rfl ?_
        refine jr_1 jm_255 (show jw_cd cd_255 69 = some (.if_icmp .eq 9) by decide +kernel) (mb_t (q := .eq) (a := t) (b := 3) (t := 78) (by show t = 3; omega) ⟨by omega, by omega⟩ ⟨by omega, by omega⟩ (by decide) (by decide)) ?_
        refine jr_1 jm_255 (show jw_cd cd_255 78 = some (.iload 4) by decide +kernel) rfl ?_
        refine jr_1 jm_255 (show jw_cd cd_255 80 = some (.ifCond .eq 14) by decide +kernel) (mz_f (q := .eq) (a := kk) (by show ¬ (kk = 0); omega) ⟨by omega, by omega⟩ (by decide)) ?_
        refine jr_1 jm_255 (show jw_cd cd_255 83 = some (.iload 4) by decide +kernel) rfl ?_
        refine jr_1 jm_255 (show jw_cd cd_255 85 = some (.iload 7) by decide +kernel) rfl ?_
        refine jr_1 jm_255 (show jw_cd cd_255 87 = some (.if_icmp .eq 7) by decide +kernel) (mb_t (q := .eq) (a := kk) (b := t) (t := 94) (by show kk = t; omega) ⟨by omega, by omega⟩ ⟨by omega, by omega⟩ (by decide) (by decide)) ?_
        refine jr_1 jm_255 (show jw_cd cd_255 94 = some (.iload 7) by decide +kernel) rfl ?_
        refine jr_1 jm_255 (F2 := (98, [some (.ref 15), some (.int (Int32.ofInt (v))), some (.long (Int64.ofInt (pk s))), none, some (.int (Int32.ofInt (t))), some (.int (Int32.ofInt (x))), some (.int (Int32.ofInt (w))), some (.int (Int32.ofInt (t)))], [], ml_mk h σ)) (show jw_cd cd_255 96 = some (.istore 4) by decide +kernel) rfl ?_
        refine jr_1 jm_255 (show jw_cd cd_255 98 = some (.iload 4) by decide +kernel) rfl ?_
        refine jr_1 jm_255 (show jw_cd cd_255 100 = some (.iconst (-1)) by decide +kernel) rfl ?_
        refine jr_1 jm_255 (show jw_cd cd_255 101 = some (.if_icmp .ne 5) by decide +kernel) (mb_t (q := .ne) (a := t) (b := -1) (t := 106) (by show ¬ (t = -1); omega) ⟨by omega, by omega⟩ ⟨by omega, by omega⟩ (by decide) (by decide)) ?_
        refine jr_1 jm_255 (show jw_cd cd_255 106 = some (.aload_n 0) by decide +kernel) rfl ?_
        refine jr_1 jm_255 (show jw_cd cd_255 107 = some (.getfield 35) by decide +kernel) (mg_a hl (a := 24) (show jw_fld 34 35 16 = some 10 by decide +kernel) (by decide) (by decide)) ?_
        refine jr_1 jm_255 (show jw_cd cd_255 110 = some (.iload 5) by decide +kernel) rfl ?_
        refine jr_1 jm_255 (show jw_cd cd_255 112 = some (.iaload) by decide +kernel) (ma_i hl (i := x) (e := σ 10 (x)) 10 (by omega) (by show _ < ((1740 : Nat) : Int); omega) rfl (by decide) (by decide) (by decide)) ?_
        refine jr_1 jm_255 (F2 := (115, [some (.ref 15), some (.int (Int32.ofInt (v))), some (.long (Int64.ofInt (pk s))), none, some (.int (Int32.ofInt (t))), some (.int (Int32.ofInt (σ 10 (x)))), some (.int (Int32.ofInt (w))), some (.int (Int32.ofInt (t)))], [], ml_mk h σ)) (show jw_cd cd_255 113 = some (.istore 5) by decide +kernel) rfl ?_
        refine jr_1 jm_255 (show jw_cd cd_255 115 = some (.goto (-104)) by decide +kernel) (ju_go (t := 11) (by decide)) ?_
        exact kq
    · omega
  · rcases ht with ht | ht
    · omega
    · by_cases hz : kk = 0
      · skip
        refine jr_1 jm_255 (show jw_cd cd_255 66 = some (.iload 7) by decide +kernel) rfl ?_
        refine jr_1 jm_255 (show jw_cd cd_255 68 = some (.iconst 3) by decide +kernel) rfl ?_
        refine jr_1 jm_255 (show jw_cd cd_255 69 = some (.if_icmp .eq 9) by decide +kernel) (mb_f (q := .eq) (a := t) (b := 3) (by show ¬ (t = 3); omega) ⟨by omega, by omega⟩ ⟨by omega, by omega⟩ (by decide)) ?_
        refine jr_1 jm_255 (show jw_cd cd_255 72 = some (.iload 7) by decide +kernel) rfl ?_
        refine jr_1 jm_255 (show jw_cd cd_255 74 = some (.iconst 4) by decide +kernel) rfl ?_
        refine jr_1 jm_255 (show jw_cd cd_255 75 = some (.if_icmp .ne 15) by decide +kernel) (mb_f (q := .ne) (a := t) (b := 4) (by show ¬ (¬ (t = 4)); omega) ⟨by omega, by omega⟩ ⟨by omega, by omega⟩ (by decide)) ?_
        refine jr_1 jm_255 (show jw_cd cd_255 78 = some (.iload 4) by decide +kernel) rfl ?_
        refine jr_1 jm_255 (show jw_cd cd_255 80 = some (.ifCond .eq 14) by decide +kernel) (mz_t (q := .eq) (a := kk) (t := 94) (by show kk = 0; omega) ⟨by omega, by omega⟩ (by decide) (by decide)) ?_
        refine jr_1 jm_255 (show jw_cd cd_255 94 = some (.iload 7) by decide +kernel) rfl ?_
        refine jr_1 jm_255 (F2 := (98, [some (.ref 15), some (.int (Int32.ofInt (v))), some (.long (Int64.ofInt (pk s))), none, some (.int (Int32.ofInt (t))), some (.int (Int32.ofInt (x))), some (.int (Int32.ofInt (w))), some (.int (Int32.ofInt (t)))], [], ml_mk h σ)) (show jw_cd cd_255 96 = some (.istore 4) by decide +kernel) rfl ?_
        refine jr_1 jm_255 (show jw_cd cd_255 98 = some (.iload 4) by decide +kernel) rfl ?_
        refine jr_1 jm_255 (show jw_cd cd_255 100 = some (.iconst (-1)) by decide +kernel) rfl ?_
        refine jr_1 jm_255 (show jw_cd cd_255 101 = some (.if_icmp .ne 5) by decide +kernel) (mb_t (q := .ne) (a := t) (b := -1) (t := 106) (by show ¬ (t = -1); omega) ⟨by omega, by omega⟩ ⟨by omega, by omega⟩ (by decide) (by decide)) ?_
        refine jr_1 jm_255 (show jw_cd cd_255 106 = some (.aload_n 0) by decide +kernel) rfl ?_
        refine jr_1 jm_255 (show jw_cd cd_255 107 = some (.getfield 35) by decide +kernel) (mg_a hl (a := 24) (show jw_fld 34 35 16 = some 10 by decide +kernel) (by decide) (by decide)) ?_
        refine jr_1 jm_255 (show jw_cd cd_255 110 = some (.iload 5) by decide +kernel) rfl ?_
        refine jr_1 jm_255 (show jw_cd cd_255 112 = some (.iaload) by decide +kernel) (ma_i hl (i := x) (e := σ 10 (x)) 10 (by omega) (by show _ < ((1740 : Nat) : Int); omega) rfl (by decide) (by decide) (by decide)) ?_
        refine jr_1 jm_255 (F2 := (115, [some (.ref 15), some (.int (Int32.ofInt (v))), some (.long (Int64.ofInt (pk s))), none, some (.int (Int32.ofInt (t))), some (.int (Int32.ofInt (σ 10 (x)))), some (.int (Int32.ofInt (w))), some (.int (Int32.ofInt (t)))], [], ml_mk h σ)) (show jw_cd cd_255 113 = some (.istore 5) by decide +kernel) rfl ?_
        refine jr_1 jm_255 (show jw_cd cd_255 115 = some (.goto (-104)) by decide +kernel) (ju_go (t := 11) (by decide)) ?_
        exact kq
      · have he : kk = t := hke hz
        refine jr_1 jm_255 (show jw_cd cd_255 66 = some (.iload 7) by decide +kernel) rfl ?_
        refine jr_1 jm_255 (show jw_cd cd_255 68 = some (.iconst 3) by decide +kernel) rfl ?_
        refine jr_1 jm_255 (show jw_cd cd_255 69 = some (.if_icmp .eq 9) by decide +kernel) (mb_f (q := .eq) (a := t) (b := 3) (by show ¬ (t = 3); omega) ⟨by omega, by omega⟩ ⟨by omega, by omega⟩ (by decide)) ?_
        refine jr_1 jm_255 (show jw_cd cd_255 72 = some (.iload 7) by decide +kernel) rfl ?_
        refine jr_1 jm_255 (show jw_cd cd_255 74 = some (.iconst 4) by decide +kernel) rfl ?_
        refine jr_1 jm_255 (show jw_cd cd_255 75 = some (.if_icmp .ne 15) by decide +kernel) (mb_f (q := .ne) (a := t) (b := 4) (by show ¬ (¬ (t = 4)); omega) ⟨by omega, by omega⟩ ⟨by omega, by omega⟩ (by decide)) ?_
        refine jr_1 jm_255 (show jw_cd cd_255 78 = some (.iload 4) by decide +kernel) rfl ?_
        refine jr_1 jm_255 (show jw_cd cd_255 80 = some (.ifCond .eq 14) by decide +kernel) (mz_f (q := .eq) (a := kk) (by show ¬ (kk = 0); omega) ⟨by omega, by omega⟩ (by decide)) ?_
        refine jr_1 jm_255 (show jw_cd cd_255 83 = some (.iload 4) by decide +kernel) rfl ?_
        refine jr_1 jm_255 (show jw_cd cd_255 85 = some (.iload 7) by decide +kernel) rfl ?_
        refine jr_1 jm_255 (show jw_cd cd_255 87 = some (.if_icmp .eq 7) by decide +kernel) (mb_t (q := .eq) (a := kk) (b := t) (t := 94) (by show kk = t; omega) ⟨by omega, by omega⟩ ⟨by omega, by omega⟩ (by decide) (by decide)) ?_
        refine jr_1 jm_255 (show jw_cd cd_255 94 = some (.iload 7) by decide +kernel) rfl ?_
        refine jr_1 jm_255 (F2 := (98, [some (.ref 15), some (.int (Int32.ofInt (v))), some (.long (Int64.ofInt (pk s))), none, some (.int (Int32.ofInt (t))), some (.int (Int32.ofInt (x))), some (.int (Int32.ofInt (w))), some (.int (Int32.ofInt (t)))], [], ml_mk h σ)) (show jw_cd cd_255 96 = some (.istore 4) by decide +kernel) rfl ?_
        refine jr_1 jm_255 (show jw_cd cd_255 98 = some (.iload 4) by decide +kernel) rfl ?_
        refine jr_1 jm_255 (show jw_cd cd_255 100 = some (.iconst (-1)) by decide +kernel) rfl ?_
        refine jr_1 jm_255 (show jw_cd cd_255 101 = some (.if_icmp .ne 5) by decide +kernel) (mb_t (q := .ne) (a := t) (b := -1) (t := 106) (by show ¬ (t = -1); omega) ⟨by omega, by omega⟩ ⟨by omega, by omega⟩ (by decide) (by decide)) ?_
        refine jr_1 jm_255 (show jw_cd cd_255 106 = some (.aload_n 0) by decide +kernel) rfl ?_
        refine jr_1 jm_255 (show jw_cd cd_255 107 = some (.getfield 35) by decide +kernel) (mg_a hl (a := 24) (show jw_fld 34 35 16 = some 10 by decide +kernel) (by decide) (by decide)) ?_
        refine jr_1 jm_255 (show jw_cd cd_255 110 = some (.iload 5) by decide +kernel) rfl ?_
        refine jr_1 jm_255 (show jw_cd cd_255 112 = some (.iaload) by decide +kernel) (ma_i hl (i := x) (e := σ 10 (x)) 10 (by omega) (by show _ < ((1740 : Nat) : Int); omega) rfl (by decide) (by decide) (by decide)) ?_
        refine jr_1 jm_255 (F2 := (115, [some (.ref 15), some (.int (Int32.ofInt (v))), some (.long (Int64.ofInt (pk s))), none, some (.int (Int32.ofInt (t))), some (.int (Int32.ofInt (σ 10 (x)))), some (.int (Int32.ofInt (w))), some (.int (Int32.ofInt (t)))], [], ml_mk h σ)) (show jw_cd cd_255 113 = some (.istore 5) by decide +kernel) rfl ?_
        refine jr_1 jm_255 (show jw_cd cd_255 115 = some (.goto (-104)) by decide +kernel) (ju_go (t := 11) (by decide)) ?_
        exact kq

theorem jn_so_bad {β : Bool} {d : Nat} {h : jx_H} {σ : mS} (hl : 49 ≤ h.length) {v kk x w t : Int} {s : List Int} (hkk : 0 ≤ kk ∧ kk ≤ 6) (ht6 : 0 ≤ t ∧ t ≤ 6) (hb : (¬ t = 3 ∧ ¬ t = 4) ∨ (¬ kk = 0 ∧ ¬ kk = t)) : jx_r (jz β) jw_M (d + 1) 255 (66, [some (.ref 15), some (.int (Int32.ofInt (v))), some (.long (Int64.ofInt (pk s))), none, some (.int (Int32.ofInt (kk))), some (.int (Int32.ofInt (x))), some (.int (Int32.ofInt (w))), some (.int (Int32.ofInt (t)))], [], ml_mk h σ) (ml_mk h (σ), .inl (some (.int (Int32.ofInt (-1))))) := by
  by_cases h34 : ¬ t = 3 ∧ ¬ t = 4
  · skip
    refine jr_1 jm_255 (show jw_cd cd_255 66 = some (.iload 7) by decide +kernel) rfl ?_
    refine jr_1 jm_255 (show jw_cd cd_255 68 = some (.iconst 3) by decide +kernel) rfl ?_
    refine jr_1 jm_255 (show jw_cd cd_255 69 = some (.if_icmp .eq 9) by decide +kernel) (mb_f (q := .eq) (a := t) (b := 3) (by show ¬ (t = 3); omega) ⟨by omega, by omega⟩ ⟨by omega, by omega⟩ (by decide)) ?_
    refine jr_1 jm_255 (show jw_cd cd_255 72 = some (.iload 7) by decide +kernel) rfl ?_
    refine jr_1 jm_255 (show jw_cd cd_255 74 = some (.iconst 4) by decide +kernel) rfl ?_
    refine jr_1 jm_255 (show jw_cd cd_255 75 = some (.if_icmp .ne 15) by decide +kernel) (mb_t (q := .ne) (a := t) (b := 4) (t := 90) (by show ¬ (t = 4); omega) ⟨by omega, by omega⟩ ⟨by omega, by omega⟩ (by decide) (by decide)) ?_
    refine jr_1 jm_255 (show jw_cd cd_255 90 = some (.iconst (-1)) by decide +kernel) rfl ?_
    refine jr_1 jm_255 (show jw_cd cd_255 91 = some (.goto 5) by decide +kernel) (ju_go (t := 96) (by decide)) ?_
    refine jr_1 jm_255 (F2 := (98, [some (.ref 15), some (.int (Int32.ofInt (v))), some (.long (Int64.ofInt (pk s))), none, some (.int (Int32.ofInt (-1))), some (.int (Int32.ofInt (x))), some (.int (Int32.ofInt (w))), some (.int (Int32.ofInt (t)))], [], ml_mk h σ)) (show jw_cd cd_255 96 = some (.istore 4) by decide +kernel) rfl ?_
    refine jr_1 jm_255 (show jw_cd cd_255 98 = some (.iload 4) by decide +kernel) rfl ?_
    refine jr_1 jm_255 (show jw_cd cd_255 100 = some (.iconst (-1)) by decide +kernel) rfl ?_
    refine jr_1 jm_255 (show jw_cd cd_255 101 = some (.if_icmp .ne 5) by decide +kernel) (mb_f (q := .ne) (a := -1) (b := -1) (by show ¬ (¬ (-1 = -1)); omega) ⟨by omega, by omega⟩ ⟨by omega, by omega⟩ (by decide)) ?_
    refine jr_1 jm_255 (show jw_cd cd_255 104 = some (.iconst (-1)) by decide +kernel) rfl ?_
    exact jr_v jm_255 (show jw_cd cd_255 105 = some (.ireturn) by decide +kernel) rfl
  · have hk2 : ¬ kk = 0 ∧ ¬ kk = t := hb.resolve_left h34
    by_cases h3 : t = 3
    · skip
      refine jr_1 jm_255 (show jw_cd cd_255 66 = some (.iload 7) by decide +kernel) rfl ?_
      refine jr_1 jm_255 (show jw_cd cd_255 68 = some (.iconst 3) by decide +kernel) rfl ?_
      refine jr_1 jm_255 (show jw_cd cd_255 69 = some (.if_icmp .eq 9) by decide +kernel) (mb_t (q := .eq) (a := t) (b := 3) (t := 78) (by show t = 3; omega) ⟨by omega, by omega⟩ ⟨by omega, by omega⟩ (by decide) (by decide)) ?_
      refine jr_1 jm_255 (show jw_cd cd_255 78 = some (.iload 4) by decide +kernel) rfl ?_
      refine jr_1 jm_255 (show jw_cd cd_255 80 = some (.ifCond .eq 14) by decide +kernel) (mz_f (q := .eq) (a := kk) (by show ¬ (kk = 0); omega) ⟨by omega, by omega⟩ (by decide)) ?_
      refine jr_1 jm_255 (show jw_cd cd_255 83 = some (.iload 4) by decide +kernel) rfl ?_
      refine jr_1 jm_255 (show jw_cd cd_255 85 = some (.iload 7) by decide +kernel) rfl ?_
      refine jr_1 jm_255 (show jw_cd cd_255 87 = some (.if_icmp .eq 7) by decide +kernel) (mb_f (q := .eq) (a := kk) (b := t) (by show ¬ (kk = t); omega) ⟨by omega, by omega⟩ ⟨by omega, by omega⟩ (by decide)) ?_
      refine jr_1 jm_255 (show jw_cd cd_255 90 = some (.iconst (-1)) by decide +kernel) rfl ?_
      refine jr_1 jm_255 (show jw_cd cd_255 91 = some (.goto 5) by decide +kernel) (ju_go (t := 96) (by decide)) ?_
      refine jr_1 jm_255 (F2 := (98, [some (.ref 15), some (.int (Int32.ofInt (v))), some (.long (Int64.ofInt (pk s))), none, some (.int (Int32.ofInt (-1))), some (.int (Int32.ofInt (x))), some (.int (Int32.ofInt (w))), some (.int (Int32.ofInt (t)))], [], ml_mk h σ)) (show jw_cd cd_255 96 = some (.istore 4) by decide +kernel) rfl ?_
      refine jr_1 jm_255 (show jw_cd cd_255 98 = some (.iload 4) by decide +kernel) rfl ?_
      refine jr_1 jm_255 (show jw_cd cd_255 100 = some (.iconst (-1)) by decide +kernel) rfl ?_
      refine jr_1 jm_255 (show jw_cd cd_255 101 = some (.if_icmp .ne 5) by decide +kernel) (mb_f (q := .ne) (a := -1) (b := -1) (by show ¬ (¬ (-1 = -1)); omega) ⟨by omega, by omega⟩ ⟨by omega, by omega⟩ (by decide)) ?_
      refine jr_1 jm_255 (show jw_cd cd_255 104 = some (.iconst (-1)) by decide +kernel) rfl ?_
      exact jr_v jm_255 (show jw_cd cd_255 105 = some (.ireturn) by decide +kernel) rfl
    · have h4 : t = 4 := by omega
      refine jr_1 jm_255 (show jw_cd cd_255 66 = some (.iload 7) by decide +kernel) rfl ?_
      refine jr_1 jm_255 (show jw_cd cd_255 68 = some (.iconst 3) by decide +kernel) rfl ?_
      refine jr_1 jm_255 (show jw_cd cd_255 69 = some (.if_icmp .eq 9) by decide +kernel) (mb_f (q := .eq) (a := t) (b := 3) (by show ¬ (t = 3); omega) ⟨by omega, by omega⟩ ⟨by omega, by omega⟩ (by decide)) ?_
      refine jr_1 jm_255 (show jw_cd cd_255 72 = some (.iload 7) by decide +kernel) rfl ?_
      refine jr_1 jm_255 (show jw_cd cd_255 74 = some (.iconst 4) by decide +kernel) rfl ?_
      refine jr_1 jm_255 (show jw_cd cd_255 75 = some (.if_icmp .ne 15) by decide +kernel) (mb_f (q := .ne) (a := t) (b := 4) (by show ¬ (¬ (t = 4)); omega) ⟨by omega, by omega⟩ ⟨by omega, by omega⟩ (by decide)) ?_
      refine jr_1 jm_255 (show jw_cd cd_255 78 = some (.iload 4) by decide +kernel) rfl ?_
      refine jr_1 jm_255 (show jw_cd cd_255 80 = some (.ifCond .eq 14) by decide +kernel) (mz_f (q := .eq) (a := kk) (by show ¬ (kk = 0); omega) ⟨by omega, by omega⟩ (by decide)) ?_
      refine jr_1 jm_255 (show jw_cd cd_255 83 = some (.iload 4) by decide +kernel) rfl ?_
      refine jr_1 jm_255 (show jw_cd cd_255 85 = some (.iload 7) by decide +kernel) rfl ?_
      refine jr_1 jm_255 (show jw_cd cd_255 87 = some (.if_icmp .eq 7) by decide +kernel) (mb_f (q := .eq) (a := kk) (b := t) (by show ¬ (kk = t); omega) ⟨by omega, by omega⟩ ⟨by omega, by omega⟩ (by decide)) ?_
      refine jr_1 jm_255 (show jw_cd cd_255 90 = some (.iconst (-1)) by decide +kernel) rfl ?_
      refine jr_1 jm_255 (show jw_cd cd_255 91 = some (.goto 5) by decide +kernel) (ju_go (t := 96) (by decide)) ?_
      refine jr_1 jm_255 (F2 := (98, [some (.ref 15), some (.int (Int32.ofInt (v))), some (.long (Int64.ofInt (pk s))), none, some (.int (Int32.ofInt (-1))), some (.int (Int32.ofInt (x))), some (.int (Int32.ofInt (w))), some (.int (Int32.ofInt (t)))], [], ml_mk h σ)) (show jw_cd cd_255 96 = some (.istore 4) by decide +kernel) rfl ?_
      refine jr_1 jm_255 (show jw_cd cd_255 98 = some (.iload 4) by decide +kernel) rfl ?_
      refine jr_1 jm_255 (show jw_cd cd_255 100 = some (.iconst (-1)) by decide +kernel) rfl ?_
      refine jr_1 jm_255 (show jw_cd cd_255 101 = some (.if_icmp .ne 5) by decide +kernel) (mb_f (q := .ne) (a := -1) (b := -1) (by show ¬ (¬ (-1 = -1)); omega) ⟨by omega, by omega⟩ ⟨by omega, by omega⟩ (by decide)) ?_
      refine jr_1 jm_255 (show jw_cd cd_255 104 = some (.iconst (-1)) by decide +kernel) rfl ?_
      exact jr_v jm_255 (show jw_cd cd_255 105 = some (.ireturn) by decide +kernel) rfl
theorem rkind_r {s : List Int} {i : tI} {c : FT} (hi : iok i) (hc : fwf c) : 0 ≤ rkind s i c ∧ rkind s i c ≤ 6 := by
  unfold rkind
  cases hx : vrank s i c with
  | none => exact ⟨by decide, by decide⟩
  | some y =>
    obtain ⟨j, E⟩ := y
    obtain ⟨h1, h2⟩ := vrank_ok hi hc hx
    exact ⟨h1.1, h1.2.1⟩
theorem jn_sort_loop {β : Bool} {d : Nat} {h : jx_H} {σ : mS} (hl : 49 ≤ h.length) {A B : Int → Prop} (hA : mIx A) (hB : mIx B) {v : Int} {s : List Int} (hs : tx s) : ∀ (F : FT) (x kk : Int) (c6 c7 : Option Value), fwf F → mF σ A B F x → 0 ≤ kk ∧ kk ≤ 6 → jx_r (jz β) jw_M (d + 1) 255 (11, [some (.ref 15), some (.int (Int32.ofInt (v))), some (.long (Int64.ofInt (pk s))), none, some (.int (Int32.ofInt (kk))), some (.int (Int32.ofInt (x))), c6, c7], [], ml_mk h σ) (ml_mk h (σ), .inl (some (.int (Int32.ofInt (fsort s kk F)))))
  | .leaf, x, kk, c6, c7, _, hx, _ => by
    have hx : x = -1 := hx
    subst hx
    show jx_r (jz β) jw_M (d + 1) 255 (11, [some (.ref 15), some (.int (Int32.ofInt (v))), some (.long (Int64.ofInt (pk s))), none, some (.int (Int32.ofInt (kk))), some (.int (Int32.ofInt (-1))), c6, c7], [], ml_mk h σ) (ml_mk h (σ), .inl (some (.int (Int32.ofInt (kk)))))
    refine jr_1 jm_255 (show jw_cd cd_255 11 = some (.iload 5) by decide +kernel) rfl ?_
    refine jr_1 jm_255 (show jw_cd cd_255 13 = some (.iconst (-1)) by decide +kernel) rfl ?_
    refine jr_1 jm_255 (show jw_cd cd_255 14 = some (.if_icmp .eq 104) by decide +kernel) (mb_t (q := .eq) (a := -1) (b := -1) (t := 118) (by show -1 = -1; omega) ⟨by omega, by omega⟩ ⟨by omega, by omega⟩ (by decide) (by decide)) ?_
    refine jr_1 jm_255 (show jw_cd cd_255 118 = some (.iload 4) by decide +kernel) rfl ?_
    exact jr_v jm_255 (show jw_cd cd_255 120 = some (.ireturn) by decide +kernel) rfl
  | .inner s0 i u0 c n, x, kk, c6, c7, hw, hx, hkk => by
    obtain ⟨b1, a1, hkey, hN, hc, hn⟩ := hx
    obtain ⟨hi, wc, wn⟩ := hw
    have bx := hB x b1
    have hrk := rkind_r (s := s) hi wc
    obtain ⟨w, r1, r2⟩ := jn_so_rank (β := β) (d := d) (v := v) (kk := kk) (c6 := c6) (c7 := c7) hl hA hB hs hi wc bx ⟨a1, hN, hc⟩
    refine jr_1 jm_255 (show jw_cd cd_255 11 = some (.iload 5) by decide +kernel) rfl ?_
    refine jr_1 jm_255 (show jw_cd cd_255 13 = some (.iconst (-1)) by decide +kernel) rfl ?_
    refine jr_1 jm_255 (show jw_cd cd_255 14 = some (.if_icmp .eq 104) by decide +kernel) (mb_f (q := .eq) (a := x) (b := -1) (by show ¬ (x = -1); omega) ⟨by omega, by omega⟩ ⟨by omega, by omega⟩ (by decide)) ?_
    refine r1 _ (jn_so_its hl hA r2 _ ?_)
    show jx_r _ _ _ _ _ (ml_mk h σ, .inl (some (.int (Int32.ofInt (if (¬ rkind s i c = 3 ∧ ¬ rkind s i c = 4) ∨ (¬ kk = 0 ∧ ¬ kk = rkind s i c) then -1 else fsort s (rkind s i c) n)))))
    by_cases hb : (¬ rkind s i c = 3 ∧ ¬ rkind s i c = 4) ∨ (¬ kk = 0 ∧ ¬ kk = rkind s i c)
    · rw [if_pos hb]
      exact jn_so_bad hl hkk hrk hb
    · rw [if_neg hb]
      exact jn_so_go hl bx hkk (by omega) (by omega) _ (jn_sort_loop hl hA hB hs n (σ 10 x) (rkind s i c) _ _ wn hn hrk)
theorem jn_sort {β : Bool} {d : Nat} {h : jx_H} {σ : mS} (hl : 49 ≤ h.length) {A B : Int → Prop} (hA : mIx A) (hB : mIx B) {v : Int} {s : List Int} (hs : tx s) {i0 : tI} {F : FT} (hw : fwf F) (hV : mV σ A B v i0 F) : jx_r (jz β) jw_M (d + 1) 255 (0, [some (.ref 15), some (.int (Int32.ofInt (v))), some (.long (Int64.ofInt (pk s))), none, none, none, none, none], [], ml_mk h σ) (ml_mk h (σ), .inl (some (.int (Int32.ofInt (fsort s 0 F))))) := by
  obtain ⟨a0, hN0, hF⟩ := hV
  obtain ⟨av0, av1⟩ := hA _ a0
  refine jr_1 jm_255 (show jw_cd cd_255 0 = some (.iconst 0) by decide +kernel) rfl ?_
  refine jr_1 jm_255 (F2 := (3, [some (.ref 15), some (.int (Int32.ofInt (v))), some (.long (Int64.ofInt (pk s))), none, some (.int (Int32.ofInt (0))), none, none, none], [], ml_mk h σ)) (show jw_cd cd_255 1 = some (.istore 4) by decide +kernel) rfl ?_
  refine jr_1 jm_255 (show jw_cd cd_255 3 = some (.aload_n 0) by decide +kernel) rfl ?_
  refine jr_1 jm_255 (show jw_cd cd_255 4 = some (.getfield 23) by decide +kernel) (mg_a hl (a := 20) (show jw_fld 34 23 16 = some 6 by decide +kernel) (by decide) (by decide)) ?_
  refine jr_1 jm_255 (show jw_cd cd_255 7 = some (.iload_n 1) by decide +kernel) rfl ?_
  refine jr_1 jm_255 (show jw_cd cd_255 8 = some (.iaload) by decide +kernel) (ma_i hl (i := v) (e := σ 6 (v)) 6 (by omega) (by show _ < ((1740 : Nat) : Int); omega) rfl (by decide) (by decide) (by decide)) ?_
  refine jr_1 jm_255 (F2 := (11, [some (.ref 15), some (.int (Int32.ofInt (v))), some (.long (Int64.ofInt (pk s))), none, some (.int (Int32.ofInt (0))), some (.int (Int32.ofInt (σ 6 (v)))), none, none], [], ml_mk h σ)) (show jw_cd cd_255 9 = some (.istore 5) by decide +kernel) rfl ?_
  exact jn_sort_loop hl hA hB hs F (σ 6 v) 0 none none hw hF ⟨by decide, by decide⟩

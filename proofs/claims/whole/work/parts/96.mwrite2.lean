/-! ===== the model writes a value: the loop (printed by program: gen24.py) ===== -/
def iok (i : tI) : Prop := 0 ≤ i.1 ∧ i.1 ≤ 6 ∧ mr i.2.1 ∧ tx i.2.2.1 ∧ tx i.2.2.2
def fwf : FT → Prop
  | .leaf => True
  | .inner _ i _ c n => iok i ∧ fwf c ∧ fwf n
theorem fwf_ok : ∀ F : FT, fwf F → fok F
  | .leaf, _ => trivial
  | .inner _ i _ c n, h => by
    obtain ⟨⟨h1, h2, h3, h4, h5⟩, h6, h7⟩ := h
    exact ⟨h4, h5, ⟨by omega, by omega⟩, h3, fwf_ok c h6, fwf_ok n h7⟩
/-- a cell tells how long the row is that begins there -/
theorem mF_sz {σ : mS} {A B A' B' : Int → Prop} (hB : mIx B) (hB' : mIx B') : ∀ (F F' : FT) (x : Int), mF σ A B F x → mF σ A' B' F' x → fsz F = fsz F'
  | .leaf, .leaf, _, _, _ => rfl
  | .leaf, .inner _ _ _ _ _, x, h, h' => by
    have h : x = -1 := h
    have := hB' x h'.1
    omega
  | .inner _ _ _ _ _, .leaf, x, h, h' => by
    have h' : x = -1 := h'
    have := hB x h.1
    omega
  | .inner _ _ _ _ n, .inner _ _ _ _ n', x, h, h' => by
    show fsz n + 1 = fsz n' + 1
    rw [mF_sz hB hB' n n' _ h.2.2.2.2.2 h'.2.2.2.2.2]
theorem jn_wr_a {β : Bool} {d : Nat} {h : jx_H} {σ : mS} (hl : 49 ≤ h.length) {τ : mS} {v x dp hd : Int} {first : Bool} {l : List Int} (hv : 0 ≤ v ∧ v < 1740) (hx : 0 ≤ x ∧ x < 1740) (hh : -1 ≤ hd ∧ hd < 1740) (q6 : τ 6 v = hd) (hfi : first = true ↔ x = hd) (hp : pap τ l) (h5 : l.length < 500) : ∃ τ', (∀ res, jx_r (jz β) jw_M (d + 4 + 1) 275 (138, [some (.ref 15), some (.int (Int32.ofInt (dp))), some (.int (Int32.ofInt (1))), some (.int (Int32.ofInt (v))), some (.int (Int32.ofInt (x)))], [], ml_mk h τ') res → jx_r (jz β) jw_M (d + 4 + 1) 275 (121, [some (.ref 15), some (.int (Int32.ofInt (dp))), some (.int (Int32.ofInt (1))), some (.int (Int32.ofInt (v))), some (.int (Int32.ofInt (x)))], [], ml_mk h τ) res) ∧ mEq [45, 46] τ τ' ∧ pap τ' (l ++ (bif first then [] else [44])) := by
  obtain ⟨v0, v1⟩ := hv
  obtain ⟨x0, x1⟩ := hx
  obtain ⟨hh0, hh1⟩ := hh
  by_cases hf : x = hd
  · rw [hfi.mpr hf]
    refine ⟨τ, fun res kk => ?_, mEq_refl _ _, by rw [show (bif true then ([] : List Int) else [44]) = [] from rfl, List.append_nil]; exact hp⟩
    refine jr_1 jm_275 (show jw_cd cd_275 121 = some (.iload 4) by decide +kernel) rfl ?_
    refine jr_1 jm_275 (show jw_cd cd_275 123 = some (.aload_n 0) by decide +kernel) rfl ?_
    refine jr_1 jm_275 (show jw_cd cd_275 124 = some (.getfield 23) by decide +kernel) (mg_a hl (a := 20) (show jw_fld 34 23 16 = some 6 by decide +kernel) (by decide) (by decide)) ?_
    refine jr_1 jm_275 (show jw_cd cd_275 127 = some (.iload_n 3) by decide +kernel) rfl ?_
    refine jr_1 jm_275 (show jw_cd cd_275 128 = some (.iaload) by decide +kernel) (ma_i hl (i := v) (e := hd) 6 (by omega) (by show _ < ((1740 : Nat) : Int); omega) q6 (by decide) (by decide) (by decide)) ?_
    refine jr_1 jm_275 (show jw_cd cd_275 129 = some (.if_icmp .eq 9) by decide +kernel) (mb_t (q := .eq) (a := x) (b := hd) (t := 138) hf ⟨by omega, by omega⟩ ⟨by omega, by omega⟩ (by decide) (by decide)) ?_
    exact kk
  · have hf2 : first = false := by
      cases first
      · rfl
      · exact absurd (hfi.mp rfl) hf
    rw [hf2]
    refine ⟨mMark τ 44, fun res kk => ?_, mEq_mark (mEq_refl _ _) (by decide) (by decide), pap_mark hp⟩
    refine jr_1 jm_275 (show jw_cd cd_275 121 = some (.iload 4) by decide +kernel) rfl ?_
    refine jr_1 jm_275 (show jw_cd cd_275 123 = some (.aload_n 0) by decide +kernel) rfl ?_
    refine jr_1 jm_275 (show jw_cd cd_275 124 = some (.getfield 23) by decide +kernel) (mg_a hl (a := 20) (show jw_fld 34 23 16 = some 6 by decide +kernel) (by decide) (by decide)) ?_
    refine jr_1 jm_275 (show jw_cd cd_275 127 = some (.iload_n 3) by decide +kernel) rfl ?_
    refine jr_1 jm_275 (show jw_cd cd_275 128 = some (.iaload) by decide +kernel) (ma_i hl (i := v) (e := hd) 6 (by omega) (by show _ < ((1740 : Nat) : Int); omega) q6 (by decide) (by decide) (by decide)) ?_
    refine jr_1 jm_275 (show jw_cd cd_275 129 = some (.if_icmp .eq 9) by decide +kernel) (mb_f (q := .eq) (a := x) (b := hd) hf ⟨by omega, by omega⟩ ⟨by omega, by omega⟩ (by decide)) ?_
    refine jr_1 jm_275 (show jw_cd cd_275 132 = some (.aload_n 0) by decide +kernel) rfl ?_
    refine jr_1 jm_275 (show jw_cd cd_275 133 = some (.bipush 44) by decide +kernel) (mt_bi (by decide)) ?_
    refine jr_c jm_275 (show jw_cd cd_275 135 = some (.invokevirtual 356) by decide +kernel) (mc_v hl (n := 1) (m2 := 277) (bs := [.int (Int32.ofInt (44))]) (r := []) (show jw_find jw_cvT 34 356 = some (1, [(16, 277)]) by decide +kernel) (by decide) rfl rfl rfl) jm_277 ⟨Nat.le_of_ble_eq_true rfl, by decide⟩ (jn_markP hl hp (by omega)) ?_
    exact kk
theorem jn_wr_b {β : Bool} {d : Nat} {h : jx_H} {σ : mS} (hl : 49 ≤ h.length) {τ : mS} {v x dp kd : Int} {s l : List Int} (hv : 0 ≤ v ∧ v < 1740) (hx : 0 ≤ x ∧ x < 1740) (hkd : 0 ≤ kd ∧ kd ≤ 6) (q3 : τ 3 v = kd) (q9 : τ 9 x = pk s) (hs : tx s) (hp : pap τ l) (h5 : l.length + 8 ≤ 500) : ∃ τ', (∀ res, jx_r (jz β) jw_M (d + 4 + 1) 275 (166, [some (.ref 15), some (.int (Int32.ofInt (dp))), some (.int (Int32.ofInt (1))), some (.int (Int32.ofInt (v))), some (.int (Int32.ofInt (x)))], [], ml_mk h τ') res → jx_r (jz β) jw_M (d + 4 + 1) 275 (138, [some (.ref 15), some (.int (Int32.ofInt (dp))), some (.int (Int32.ofInt (1))), some (.int (Int32.ofInt (v))), some (.int (Int32.ofInt (x)))], [], ml_mk h τ) res) ∧ mEq [45, 46] τ τ' ∧ pap τ' (l ++ (bif decide (kd = 6) then s ++ [58] else [])) := by
  obtain ⟨v0, v1⟩ := hv
  obtain ⟨x0, x1⟩ := hx
  have h7 := hs.1
  by_cases hk : kd = 6
  · rw [decide_eq_true hk]
    obtain ⟨τ', r1, r2, r3⟩ := jn_chars (β := β) (d := d + 2) hl hs (mEq_refl _ τ) hp (by omega)
    refine ⟨mMark τ' 58, fun res kk => ?_, mEq_mark r2 (by decide) (by decide), by have r4 := pap_mark (c := 58) r3; rw [List.append_assoc] at r4; exact r4⟩
    refine jr_1 jm_275 (show jw_cd cd_275 138 = some (.aload_n 0) by decide +kernel) rfl ?_
    refine jr_1 jm_275 (show jw_cd cd_275 139 = some (.getfield 13) by decide +kernel) (mg_a hl (a := 17) (show jw_fld 34 13 16 = some 3 by decide +kernel) (by decide) (by decide)) ?_
    refine jr_1 jm_275 (show jw_cd cd_275 142 = some (.iload_n 3) by decide +kernel) rfl ?_
    refine jr_1 jm_275 (show jw_cd cd_275 143 = some (.iaload) by decide +kernel) (ma_i hl (i := v) (e := kd) 3 (by omega) (by show _ < ((1740 : Nat) : Int); omega) q3 (by decide) (by decide) (by decide)) ?_
    refine jr_1 jm_275 (show jw_cd cd_275 144 = some (.bipush 6) by decide +kernel) (mt_bi (by decide)) ?_
    refine jr_1 jm_275 (show jw_cd cd_275 146 = some (.if_icmp .ne 20) by decide +kernel) (mb_f (q := .ne) (a := kd) (b := 6) (fun z => z hk) ⟨by omega, by omega⟩ ⟨by omega, by omega⟩ (by decide)) ?_
    refine jr_1 jm_275 (show jw_cd cd_275 149 = some (.aload_n 0) by decide +kernel) rfl ?_
    refine jr_1 jm_275 (show jw_cd cd_275 150 = some (.aload_n 0) by decide +kernel) rfl ?_
    refine jr_1 jm_275 (show jw_cd cd_275 151 = some (.getfield 32) by decide +kernel) (mg_a hl (a := 23) (show jw_fld 34 32 16 = some 9 by decide +kernel) (by decide) (by decide)) ?_
    refine jr_1 jm_275 (show jw_cd cd_275 154 = some (.iload 4) by decide +kernel) rfl ?_
    refine jr_1 jm_275 (show jw_cd cd_275 156 = some (.laload) by decide +kernel) (ma_j hl (i := x) (e := pk s) 9 (by omega) (by show _ < ((1740 : Nat) : Int); omega) q9 (by decide) (by decide) (by decide)) ?_
    refine jr_c jm_275 (show jw_cd cd_275 157 = some (.invokevirtual 366) by decide +kernel) (mc_v hl (n := 1) (m2 := 279) (bs := [.long (Int64.ofInt (pk s))]) (r := []) (show jw_find jw_cvT 34 366 = some (1, [(16, 279)]) by decide +kernel) (by decide) rfl rfl rfl) jm_279 ⟨Nat.le_of_ble_eq_true rfl, by decide⟩ r1 ?_
    refine jr_1 jm_275 (show jw_cd cd_275 160 = some (.aload_n 0) by decide +kernel) rfl ?_
    refine jr_1 jm_275 (show jw_cd cd_275 161 = some (.bipush 58) by decide +kernel) (mt_bi (by decide)) ?_
    refine jr_c jm_275 (show jw_cd cd_275 163 = some (.invokevirtual 356) by decide +kernel) (mc_v hl (n := 1) (m2 := 277) (bs := [.int (Int32.ofInt (58))]) (r := []) (show jw_find jw_cvT 34 356 = some (1, [(16, 277)]) by decide +kernel) (by decide) rfl rfl rfl) jm_277 ⟨Nat.le_of_ble_eq_true rfl, by decide⟩ (jn_markP hl r3 (by simp; omega)) ?_
    exact kk
  · rw [decide_eq_false hk]
    refine ⟨τ, fun res kk => ?_, mEq_refl _ _, by rw [show (bif false then s ++ [58] else []) = ([] : List Int) from rfl, List.append_nil]; exact hp⟩
    refine jr_1 jm_275 (show jw_cd cd_275 138 = some (.aload_n 0) by decide +kernel) rfl ?_
    refine jr_1 jm_275 (show jw_cd cd_275 139 = some (.getfield 13) by decide +kernel) (mg_a hl (a := 17) (show jw_fld 34 13 16 = some 3 by decide +kernel) (by decide) (by decide)) ?_
    refine jr_1 jm_275 (show jw_cd cd_275 142 = some (.iload_n 3) by decide +kernel) rfl ?_
    refine jr_1 jm_275 (show jw_cd cd_275 143 = some (.iaload) by decide +kernel) (ma_i hl (i := v) (e := kd) 3 (by omega) (by show _ < ((1740 : Nat) : Int); omega) q3 (by decide) (by decide) (by decide)) ?_
    refine jr_1 jm_275 (show jw_cd cd_275 144 = some (.bipush 6) by decide +kernel) (mt_bi (by decide)) ?_
    refine jr_1 jm_275 (show jw_cd cd_275 146 = some (.if_icmp .ne 20) by decide +kernel) (mb_t (q := .ne) (a := kd) (b := 6) (t := 166) hk ⟨by omega, by omega⟩ ⟨by omega, by omega⟩ (by decide) (by decide)) ?_
    exact kk
theorem jn_wr_c {β : Bool} {d : Nat} {h : jx_H} {σ : mS} (hl : 49 ≤ h.length) {τ : mS} {v x dp w fx : Int} {i : tI} {l : List Int} (hv : 0 ≤ v ∧ v < 1740) (hx : 0 ≤ x ∧ x < 1740) (hw : 0 ≤ w ∧ w < 1740) (hd : 0 ≤ dp ∧ dp < 400) (q10 : τ 10 x = fx) (q8 : τ 8 x = w) (p3 : τ 3 w = i.1) (p4 : τ 4 w = i.2.1) (p5 : τ 5 w = pk i.2.2.1) (hi : iok i) (hp : pap τ l) (h5 : l.length + 12 ≤ 500) : ∃ τ', (∀ res, jx_r (jz β) jw_M (d + 4 + 1) 275 (190, [some (.ref 15), some (.int (Int32.ofInt (dp))), some (.int (Int32.ofInt (1))), some (.int (Int32.ofInt (v))), some (.int (Int32.ofInt (x)))], [], ml_mk h τ') res → jx_r (jz β) jw_M (d + 4 + 1) 275 (166, [some (.ref 15), some (.int (Int32.ofInt (dp))), some (.int (Int32.ofInt (1))), some (.int (Int32.ofInt (v))), some (.int (Int32.ofInt (x)))], [], ml_mk h τ) res) ∧ mEq [45, 46] (su τ 44 (dp) (fx)) τ' ∧ pap τ' (l ++ wL i) := by
  obtain ⟨v0, v1⟩ := hv
  obtain ⟨x0, x1⟩ := hx
  obtain ⟨d0, d1⟩ := hd
  obtain ⟨i1, i2, i3, i4, i5⟩ := hi
  have hp2 : pap (su τ 44 (dp) (fx)) l := ⟨(su_nf (by decide)).trans hp.1, fun j hj => (su_nf (by decide)).trans (hp.2 j hj)⟩
  obtain ⟨τ', r1, r2, r3⟩ := jn_leaf (β := β) (d := d) (σ := σ) (τ := (su τ 44 (dp) (fx))) hl hw ((su_nf (by decide)).trans p3) ((su_nf (by decide)).trans p4) ((su_nf (by decide)).trans p5) ⟨i1, i2⟩ i3 i4 hp2 h5
  refine ⟨τ', fun res kk => ?_, r2, r3⟩
  refine jr_1 jm_275 (show jw_cd cd_275 166 = some (.aload_n 0) by decide +kernel) rfl ?_
  refine jr_1 jm_275 (show jw_cd cd_275 167 = some (.getfield 104) by decide +kernel) (mg_a hl (a := 47) (show jw_fld 34 104 16 = some 44 by decide +kernel) (by decide) (by decide)) ?_
  refine jr_1 jm_275 (show jw_cd cd_275 170 = some (.iload_n 1) by decide +kernel) rfl ?_
  refine jr_1 jm_275 (show jw_cd cd_275 171 = some (.aload_n 0) by decide +kernel) rfl ?_
  refine jr_1 jm_275 (show jw_cd cd_275 172 = some (.getfield 35) by decide +kernel) (mg_a hl (a := 24) (show jw_fld 34 35 16 = some 10 by decide +kernel) (by decide) (by decide)) ?_
  refine jr_1 jm_275 (show jw_cd cd_275 175 = some (.iload 4) by decide +kernel) rfl ?_
  refine jr_1 jm_275 (show jw_cd cd_275 177 = some (.iaload) by decide +kernel) (ma_i hl (i := x) (e := fx) 10 (by omega) (by show _ < ((1740 : Nat) : Int); omega) q10 (by decide) (by decide) (by decide)) ?_
  refine jr_1 jm_275 (show jw_cd cd_275 178 = some (.iastore) by decide +kernel) (ms_i hl (i := dp) (x := fx) 44 (by omega) (by show _ < ((400 : Nat) : Int); omega) (by decide) (by decide) (by decide)) ?_
  refine jr_1 jm_275 (show jw_cd cd_275 179 = some (.aload_n 0) by decide +kernel) rfl ?_
  refine jr_1 jm_275 (show jw_cd cd_275 180 = some (.aload_n 0) by decide +kernel) rfl ?_
  refine jr_1 jm_275 (show jw_cd cd_275 181 = some (.getfield 29) by decide +kernel) (mg_a hl (a := 22) (show jw_fld 34 29 16 = some 8 by decide +kernel) (by decide) (by decide)) ?_
  refine jr_1 jm_275 (show jw_cd cd_275 184 = some (.iload 4) by decide +kernel) rfl ?_
  refine jr_1 jm_275 (show jw_cd cd_275 186 = some (.iaload) by decide +kernel) (ma_i hl (i := x) (e := w) 8 (by omega) (by show _ < ((1740 : Nat) : Int); omega) ((su_nf (by decide)).trans q8) (by decide) (by decide) (by decide)) ?_
  refine jr_c jm_275 (show jw_cd cd_275 187 = some (.invokevirtual 370) by decide +kernel) (mc_v hl (n := 1) (m2 := 276) (bs := [.int (Int32.ofInt (w))]) (r := []) (show jw_find jw_cvT 34 370 = some (1, [(16, 276)]) by decide +kernel) (by decide) rfl rfl rfl) jm_276 ⟨Nat.le_of_ble_eq_true rfl, by decide⟩ r1 ?_
  exact kk
theorem jn_wr_d0 {β : Bool} {d : Nat} {h : jx_H} {σ : mS} (hl : 49 ≤ h.length) {τ : mS} {v x dp w : Int} {i : tI} (hx : 0 ≤ x ∧ x < 1740) (hw : 0 ≤ w ∧ w < 1740) (hd : 0 ≤ dp ∧ dp < 399) (q8 : τ 8 x = w) (p3 : τ 3 w = i.1) (hi : 0 ≤ i.1 ∧ i.1 ≤ 6) (hk : i.1 < 5) : ∀ res, jx_r (jz β) jw_M (d + 4 + 1) 275 (59, [some (.ref 15), some (.int (Int32.ofInt (dp))), some (.int (Int32.ofInt (1))), some (.int (Int32.ofInt (v))), some (.int (Int32.ofInt (x)))], [], ml_mk h τ) res → jx_r (jz β) jw_M (d + 4 + 1) 275 (190, [some (.ref 15), some (.int (Int32.ofInt (dp))), some (.int (Int32.ofInt (1))), some (.int (Int32.ofInt (v))), some (.int (Int32.ofInt (x)))], [], ml_mk h τ) res := by
  obtain ⟨x0, x1⟩ := hx
  obtain ⟨w0, w1⟩ := hw
  intro res kk
  refine jr_1 jm_275 (show jw_cd cd_275 190 = some (.aload_n 0) by decide +kernel) rfl ?_
  refine jr_1 jm_275 (show jw_cd cd_275 191 = some (.getfield 13) by decide +kernel) (mg_a hl (a := 17) (show jw_fld 34 13 16 = some 3 by decide +kernel) (by decide) (by decide)) ?_
  refine jr_1 jm_275 (show jw_cd cd_275 194 = some (.aload_n 0) by decide +kernel) rfl ?_
  refine jr_1 jm_275 (show jw_cd cd_275 195 = some (.getfield 29) by decide +kernel) (mg_a hl (a := 22) (show jw_fld 34 29 16 = some 8 by decide +kernel) (by decide) (by decide)) ?_
  refine jr_1 jm_275 (show jw_cd cd_275 198 = some (.iload 4) by decide +kernel) rfl ?_
  refine jr_1 jm_275 (show jw_cd cd_275 200 = some (.iaload) by decide +kernel) (ma_i hl (i := x) (e := w) 8 (by omega) (by show _ < ((1740 : Nat) : Int); omega) q8 (by decide) (by decide) (by decide)) ?_
  refine jr_1 jm_275 (show jw_cd cd_275 201 = some (.iaload) by decide +kernel) (ma_i hl (i := w) (e := i.1) 3 (by omega) (by show _ < ((1740 : Nat) : Int); omega) p3 (by decide) (by decide) (by decide)) ?_
  refine jr_1 jm_275 (show jw_cd cd_275 202 = some (.iconst 5) by decide +kernel) rfl ?_
  refine jr_1 jm_275 (show jw_cd cd_275 203 = some (.if_icmp .lt 37) by decide +kernel) (mb_t (q := .lt) (a := i.1) (b := 5) (t := 240) hk ⟨by omega, by omega⟩ ⟨by omega, by omega⟩ (by decide) (by decide)) ?_
  refine jr_1 jm_275 (show jw_cd cd_275 240 = some (.goto (-181)) by decide +kernel) (ju_go (t := 59) (by decide)) ?_
  exact kk
theorem jn_wr_d1 {β : Bool} {d : Nat} {h : jx_H} {σ : mS} (hl : 49 ≤ h.length) {τ : mS} {v x dp w hw6 : Int} {i : tI} (hx : 0 ≤ x ∧ x < 1740) (hw : 0 ≤ w ∧ w < 1740) (hd : 0 ≤ dp ∧ dp < 399) (q8 : τ 8 x = w) (p3 : τ 3 w = i.1) (p6 : τ 6 w = hw6) (hi : 0 ≤ i.1 ∧ i.1 ≤ 6) (hk : 5 ≤ i.1) : ∀ res, jx_r (jz β) jw_M (d + 4 + 1) 275 (59, [some (.ref 15), some (.int (Int32.ofInt (dp + 1))), some (.int (Int32.ofInt (1))), some (.int (Int32.ofInt (v))), some (.int (Int32.ofInt (x)))], [], ml_mk h (su (su τ 43 (dp + 1) (w)) 44 (dp + 1) (hw6))) res → jx_r (jz β) jw_M (d + 4 + 1) 275 (190, [some (.ref 15), some (.int (Int32.ofInt (dp))), some (.int (Int32.ofInt (1))), some (.int (Int32.ofInt (v))), some (.int (Int32.ofInt (x)))], [], ml_mk h τ) res := by
  obtain ⟨x0, x1⟩ := hx
  obtain ⟨w0, w1⟩ := hw
  obtain ⟨d0, d1⟩ := hd
  intro res kk
  refine jr_1 jm_275 (show jw_cd cd_275 190 = some (.aload_n 0) by decide +kernel) rfl ?_
  refine jr_1 jm_275 (show jw_cd cd_275 191 = some (.getfield 13) by decide +kernel) (mg_a hl (a := 17) (show jw_fld 34 13 16 = some 3 by decide +kernel) (by decide) (by decide)) ?_
  refine jr_1 jm_275 (show jw_cd cd_275 194 = some (.aload_n 0) by decide +kernel) rfl ?_
  refine jr_1 jm_275 (show jw_cd cd_275 195 = some (.getfield 29) by decide +kernel) (mg_a hl (a := 22) (show jw_fld 34 29 16 = some 8 by decide +kernel) (by decide) (by decide)) ?_
  refine jr_1 jm_275 (show jw_cd cd_275 198 = some (.iload 4) by decide +kernel) rfl ?_
  refine jr_1 jm_275 (show jw_cd cd_275 200 = some (.iaload) by decide +kernel) (ma_i hl (i := x) (e := w) 8 (by omega) (by show _ < ((1740 : Nat) : Int); omega) q8 (by decide) (by decide) (by decide)) ?_
  refine jr_1 jm_275 (show jw_cd cd_275 201 = some (.iaload) by decide +kernel) (ma_i hl (i := w) (e := i.1) 3 (by omega) (by show _ < ((1740 : Nat) : Int); omega) p3 (by decide) (by decide) (by decide)) ?_
  refine jr_1 jm_275 (show jw_cd cd_275 202 = some (.iconst 5) by decide +kernel) rfl ?_
  refine jr_1 jm_275 (show jw_cd cd_275 203 = some (.if_icmp .lt 37) by decide +kernel) (mb_f (q := .lt) (a := i.1) (b := 5) (fun (z : i.1 < 5) => by omega) ⟨by omega, by omega⟩ ⟨by omega, by omega⟩ (by decide)) ?_
  refine jr_1 jm_275 (F2 := (209, [some (.ref 15), some (.int (Int32.ofInt (dp + 1))), some (.int (Int32.ofInt (1))), some (.int (Int32.ofInt (v))), some (.int (Int32.ofInt (x)))], [], ml_mk h τ)) (show jw_cd cd_275 206 = some (.iinc 1 1) by decide +kernel) (mt_inc (a := dp) (c := dp + 1) rfl (by omega) rfl) ?_
  refine jr_1 jm_275 (show jw_cd cd_275 209 = some (.aload_n 0) by decide +kernel) rfl ?_
  refine jr_1 jm_275 (show jw_cd cd_275 210 = some (.getfield 101) by decide +kernel) (mg_a hl (a := 46) (show jw_fld 34 101 16 = some 43 by decide +kernel) (by decide) (by decide)) ?_
  refine jr_1 jm_275 (show jw_cd cd_275 213 = some (.iload_n 1) by decide +kernel) rfl ?_
  refine jr_1 jm_275 (show jw_cd cd_275 214 = some (.aload_n 0) by decide +kernel) rfl ?_
  refine jr_1 jm_275 (show jw_cd cd_275 215 = some (.getfield 29) by decide +kernel) (mg_a hl (a := 22) (show jw_fld 34 29 16 = some 8 by decide +kernel) (by decide) (by decide)) ?_
  refine jr_1 jm_275 (show jw_cd cd_275 218 = some (.iload 4) by decide +kernel) rfl ?_
  refine jr_1 jm_275 (show jw_cd cd_275 220 = some (.iaload) by decide +kernel) (ma_i hl (i := x) (e := w) 8 (by omega) (by show _ < ((1740 : Nat) : Int); omega) q8 (by decide) (by decide) (by decide)) ?_
  refine jr_1 jm_275 (show jw_cd cd_275 221 = some (.iastore) by decide +kernel) (ms_i hl (i := dp + 1) (x := w) 43 (by omega) (by show _ < ((400 : Nat) : Int); omega) (by decide) (by decide) (by decide)) ?_
  refine jr_1 jm_275 (show jw_cd cd_275 222 = some (.aload_n 0) by decide +kernel) rfl ?_
  refine jr_1 jm_275 (show jw_cd cd_275 223 = some (.getfield 104) by decide +kernel) (mg_a hl (a := 47) (show jw_fld 34 104 16 = some 44 by decide +kernel) (by decide) (by decide)) ?_
  refine jr_1 jm_275 (show jw_cd cd_275 226 = some (.iload_n 1) by decide +kernel) rfl ?_
  refine jr_1 jm_275 (show jw_cd cd_275 227 = some (.aload_n 0) by decide +kernel) rfl ?_
  refine jr_1 jm_275 (show jw_cd cd_275 228 = some (.getfield 23) by decide +kernel) (mg_a hl (a := 20) (show jw_fld 34 23 16 = some 6 by decide +kernel) (by decide) (by decide)) ?_
  refine jr_1 jm_275 (show jw_cd cd_275 231 = some (.aload_n 0) by decide +kernel) rfl ?_
  refine jr_1 jm_275 (show jw_cd cd_275 232 = some (.getfield 29) by decide +kernel) (mg_a hl (a := 22) (show jw_fld 34 29 16 = some 8 by decide +kernel) (by decide) (by decide)) ?_
  refine jr_1 jm_275 (show jw_cd cd_275 235 = some (.iload 4) by decide +kernel) rfl ?_
  refine jr_1 jm_275 (show jw_cd cd_275 237 = some (.iaload) by decide +kernel) (ma_i hl (i := x) (e := w) 8 (by omega) (by show _ < ((1740 : Nat) : Int); omega) ((su_nf (by decide)).trans q8) (by decide) (by decide) (by decide)) ?_
  refine jr_1 jm_275 (show jw_cd cd_275 238 = some (.iaload) by decide +kernel) (ma_i hl (i := w) (e := hw6) 6 (by omega) (by show _ < ((1740 : Nat) : Int); omega) ((su_nf (by decide)).trans p6) (by decide) (by decide) (by decide)) ?_
  refine jr_1 jm_275 (show jw_cd cd_275 239 = some (.iastore) by decide +kernel) (ms_i hl (i := dp + 1) (x := hw6) 44 (by omega) (by show _ < ((400 : Nat) : Int); omega) (by decide) (by decide) (by decide)) ?_
  refine jr_1 jm_275 (show jw_cd cd_275 240 = some (.goto (-181)) by decide +kernel) (ju_go (t := 59) (by decide)) ?_
  exact kk
theorem jn_wr_e1 {β : Bool} {d : Nat} {h : jx_H} {σ : mS} (hl : 49 ≤ h.length) {τ : mS} {v dp kd : Int} {l : List Int} {c3 c4 : Option Value} (hv : 0 ≤ v ∧ v < 1740) (hd : 1 ≤ dp ∧ dp < 400) (q43 : τ 43 dp = v) (q44 : τ 44 dp = -1) (q3 : τ 3 v = kd) (hkd : 0 ≤ kd ∧ kd ≤ 6) (hp : pap τ l) (h5 : l.length < 500) : ∀ res, jx_r (jz β) jw_M (d + 4 + 1) 275 (59, [some (.ref 15), some (.int (Int32.ofInt (dp - 1))), some (.int (Int32.ofInt (1))), some (.int (Int32.ofInt (v))), some (.int (Int32.ofInt (-1)))], [], ml_mk h (mMark τ (if kd = 5 then 93 else 125))) res → jx_r (jz β) jw_M (d + 4 + 1) 275 (59, [some (.ref 15), some (.int (Int32.ofInt (dp))), some (.int (Int32.ofInt (1))), c3, c4], [], ml_mk h τ) res := by
  obtain ⟨v0, v1⟩ := hv
  obtain ⟨d0, d1⟩ := hd
  intro res kk
  refine jr_1 jm_275 (show jw_cd cd_275 59 = some (.iload_n 2) by decide +kernel) rfl ?_
  refine jr_1 jm_275 (show jw_cd cd_275 60 = some (.ifCond .eq 183) by decide +kernel) (mz_f (q := .eq) (a := 1) (by show ¬ (1 = 0); omega) ⟨by omega, by omega⟩ (by decide)) ?_
  refine jr_1 jm_275 (show jw_cd cd_275 63 = some (.aload_n 0) by decide +kernel) rfl ?_
  refine jr_1 jm_275 (show jw_cd cd_275 64 = some (.getfield 101) by decide +kernel) (mg_a hl (a := 46) (show jw_fld 34 101 16 = some 43 by decide +kernel) (by decide) (by decide)) ?_
  refine jr_1 jm_275 (show jw_cd cd_275 67 = some (.iload_n 1) by decide +kernel) rfl ?_
  refine jr_1 jm_275 (show jw_cd cd_275 68 = some (.iaload) by decide +kernel) (ma_i hl (i := dp) (e := v) 43 (by omega) (by show _ < ((400 : Nat) : Int); omega) q43 (by decide) (by decide) (by decide)) ?_
  refine jr_1 jm_275 (F2 := (70, [some (.ref 15), some (.int (Int32.ofInt (dp))), some (.int (Int32.ofInt (1))), some (.int (Int32.ofInt (v))), c4], [], ml_mk h τ)) (show jw_cd cd_275 69 = some (.istore_n 3) by decide +kernel) rfl ?_
  refine jr_1 jm_275 (show jw_cd cd_275 70 = some (.aload_n 0) by decide +kernel) rfl ?_
  refine jr_1 jm_275 (show jw_cd cd_275 71 = some (.getfield 104) by decide +kernel) (mg_a hl (a := 47) (show jw_fld 34 104 16 = some 44 by decide +kernel) (by decide) (by decide)) ?_
  refine jr_1 jm_275 (show jw_cd cd_275 74 = some (.iload_n 1) by decide +kernel) rfl ?_
  refine jr_1 jm_275 (show jw_cd cd_275 75 = some (.iaload) by decide +kernel) (ma_i hl (i := dp) (e := -1) 44 (by omega) (by show _ < ((400 : Nat) : Int); omega) q44 (by decide) (by decide) (by decide)) ?_
  refine jr_1 jm_275 (F2 := (78, [some (.ref 15), some (.int (Int32.ofInt (dp))), some (.int (Int32.ofInt (1))), some (.int (Int32.ofInt (v))), some (.int (Int32.ofInt (-1)))], [], ml_mk h τ)) (show jw_cd cd_275 76 = some (.istore 4) by decide +kernel) rfl ?_
  refine jr_1 jm_275 (show jw_cd cd_275 78 = some (.iload 4) by decide +kernel) rfl ?_
  refine jr_1 jm_275 (show jw_cd cd_275 80 = some (.iconst (-1)) by decide +kernel) rfl ?_
  refine jr_1 jm_275 (show jw_cd cd_275 81 = some (.if_icmp .ne 40) by decide +kernel) (mb_f (q := .ne) (a := -1) (b := -1) (by show ¬ (¬ (-1 = -1)); omega) ⟨by omega, by omega⟩ ⟨by omega, by omega⟩ (by decide)) ?_
  refine jr_1 jm_275 (show jw_cd cd_275 84 = some (.aload_n 0) by decide +kernel) rfl ?_
  refine jr_1 jm_275 (show jw_cd cd_275 85 = some (.aload_n 0) by decide +kernel) rfl ?_
  refine jr_1 jm_275 (show jw_cd cd_275 86 = some (.getfield 13) by decide +kernel) (mg_a hl (a := 17) (show jw_fld 34 13 16 = some 3 by decide +kernel) (by decide) (by decide)) ?_
  refine jr_1 jm_275 (show jw_cd cd_275 89 = some (.iload_n 3) by decide +kernel) rfl ?_
  refine jr_1 jm_275 (show jw_cd cd_275 90 = some (.iaload) by decide +kernel) (ma_i hl (i := v) (e := kd) 3 (by omega) (by show _ < ((1740 : Nat) : Int); omega) q3 (by decide) (by decide) (by decide)) ?_
  refine jr_1 jm_275 (show jw_cd cd_275 91 = some (.iconst 5) by decide +kernel) rfl ?_
  by_cases hk : kd = 5
  · rw [if_pos hk] at kk
    refine jr_1 jm_275 (show jw_cd cd_275 92 = some (.if_icmp .ne 8) by decide +kernel) (mb_f (q := .ne) (a := kd) (b := 5) (fun z => z hk) ⟨by omega, by omega⟩ ⟨by omega, by omega⟩ (by decide)) ?_
    refine jr_1 jm_275 (show jw_cd cd_275 95 = some (.bipush 93) by decide +kernel) (mt_bi (by decide)) ?_
    refine jr_1 jm_275 (show jw_cd cd_275 97 = some (.goto 5) by decide +kernel) (ju_go (t := 102) (by decide)) ?_
    refine jr_c jm_275 (show jw_cd cd_275 102 = some (.invokevirtual 356) by decide +kernel) (mc_v hl (n := 1) (m2 := 277) (bs := [.int (Int32.ofInt (93))]) (r := []) (show jw_find jw_cvT 34 356 = some (1, [(16, 277)]) by decide +kernel) (by decide) rfl rfl rfl) jm_277 ⟨Nat.le_of_ble_eq_true rfl, by decide⟩ (jn_markP hl hp (by omega)) ?_
    refine jr_1 jm_275 (F2 := (108, [some (.ref 15), some (.int (Int32.ofInt (dp - 1))), some (.int (Int32.ofInt (1))), some (.int (Int32.ofInt (v))), some (.int (Int32.ofInt (-1)))], [], ml_mk h (mMark τ (93)))) (show jw_cd cd_275 105 = some (.iinc 1 (-1)) by decide +kernel) (mt_inc (a := dp) (c := dp - 1) rfl (by omega) rfl) ?_
    refine jr_1 jm_275 (show jw_cd cd_275 108 = some (.iload_n 1) by decide +kernel) rfl ?_
    refine jr_1 jm_275 (show jw_cd cd_275 109 = some (.ifCond .lt 7) by decide +kernel) (mz_f (q := .lt) (a := dp - 1) (by show ¬ (dp - 1 < 0); omega) ⟨by omega, by omega⟩ (by decide)) ?_
    refine jr_1 jm_275 (show jw_cd cd_275 112 = some (.iconst 1) by decide +kernel) rfl ?_
    refine jr_1 jm_275 (show jw_cd cd_275 113 = some (.goto 4) by decide +kernel) (ju_go (t := 117) (by decide)) ?_
    refine jr_1 jm_275 (F2 := (118, [some (.ref 15), some (.int (Int32.ofInt (dp - 1))), some (.int (Int32.ofInt (1))), some (.int (Int32.ofInt (v))), some (.int (Int32.ofInt (-1)))], [], ml_mk h (mMark τ (93)))) (show jw_cd cd_275 117 = some (.istore_n 2) by decide +kernel) rfl ?_
    refine jr_1 jm_275 (show jw_cd cd_275 118 = some (.goto 122) by decide +kernel) (ju_go (t := 240) (by decide)) ?_
    refine jr_1 jm_275 (show jw_cd cd_275 240 = some (.goto (-181)) by decide +kernel) (ju_go (t := 59) (by decide)) ?_
    exact kk
  · rw [if_neg hk] at kk
    refine jr_1 jm_275 (show jw_cd cd_275 92 = some (.if_icmp .ne 8) by decide +kernel) (mb_t (q := .ne) (a := kd) (b := 5) (t := 100) hk ⟨by omega, by omega⟩ ⟨by omega, by omega⟩ (by decide) (by decide)) ?_
    refine jr_1 jm_275 (show jw_cd cd_275 100 = some (.bipush 125) by decide +kernel) (mt_bi (by decide)) ?_
    refine jr_c jm_275 (show jw_cd cd_275 102 = some (.invokevirtual 356) by decide +kernel) (mc_v hl (n := 1) (m2 := 277) (bs := [.int (Int32.ofInt (125))]) (r := []) (show jw_find jw_cvT 34 356 = some (1, [(16, 277)]) by decide +kernel) (by decide) rfl rfl rfl) jm_277 ⟨Nat.le_of_ble_eq_true rfl, by decide⟩ (jn_markP hl hp (by omega)) ?_
    refine jr_1 jm_275 (F2 := (108, [some (.ref 15), some (.int (Int32.ofInt (dp - 1))), some (.int (Int32.ofInt (1))), some (.int (Int32.ofInt (v))), some (.int (Int32.ofInt (-1)))], [], ml_mk h (mMark τ (125)))) (show jw_cd cd_275 105 = some (.iinc 1 (-1)) by decide +kernel) (mt_inc (a := dp) (c := dp - 1) rfl (by omega) rfl) ?_
    refine jr_1 jm_275 (show jw_cd cd_275 108 = some (.iload_n 1) by decide +kernel) rfl ?_
    refine jr_1 jm_275 (show jw_cd cd_275 109 = some (.ifCond .lt 7) by decide +kernel) (mz_f (q := .lt) (a := dp - 1) (by show ¬ (dp - 1 < 0); omega) ⟨by omega, by omega⟩ (by decide)) ?_
    refine jr_1 jm_275 (show jw_cd cd_275 112 = some (.iconst 1) by decide +kernel) rfl ?_
    refine jr_1 jm_275 (show jw_cd cd_275 113 = some (.goto 4) by decide +kernel) (ju_go (t := 117) (by decide)) ?_
    refine jr_1 jm_275 (F2 := (118, [some (.ref 15), some (.int (Int32.ofInt (dp - 1))), some (.int (Int32.ofInt (1))), some (.int (Int32.ofInt (v))), some (.int (Int32.ofInt (-1)))], [], ml_mk h (mMark τ (125)))) (show jw_cd cd_275 117 = some (.istore_n 2) by decide +kernel) rfl ?_
    refine jr_1 jm_275 (show jw_cd cd_275 118 = some (.goto 122) by decide +kernel) (ju_go (t := 240) (by decide)) ?_
    refine jr_1 jm_275 (show jw_cd cd_275 240 = some (.goto (-181)) by decide +kernel) (ju_go (t := 59) (by decide)) ?_
    exact kk
theorem jn_wr_e0 {β : Bool} {d : Nat} {h : jx_H} {σ : mS} (hl : 49 ≤ h.length) {τ : mS} {v dp kd : Int} {l : List Int} {c3 c4 : Option Value} (hv : 0 ≤ v ∧ v < 1740) (hd : dp = 0 ∧ dp < 400) (q43 : τ 43 dp = v) (q44 : τ 44 dp = -1) (q3 : τ 3 v = kd) (hkd : 0 ≤ kd ∧ kd ≤ 6) (hp : pap τ l) (h5 : l.length < 500) : ∀ res, jx_r (jz β) jw_M (d + 4 + 1) 275 (59, [some (.ref 15), some (.int (Int32.ofInt (dp - 1))), some (.int (Int32.ofInt (0))), some (.int (Int32.ofInt (v))), some (.int (Int32.ofInt (-1)))], [], ml_mk h (mMark τ (if kd = 5 then 93 else 125))) res → jx_r (jz β) jw_M (d + 4 + 1) 275 (59, [some (.ref 15), some (.int (Int32.ofInt (dp))), some (.int (Int32.ofInt (1))), c3, c4], [], ml_mk h τ) res := by
  obtain ⟨v0, v1⟩ := hv
  obtain ⟨d0, d1⟩ := hd
  intro res kk
  refine jr_1 jm_275 (show jw_cd cd_275 59 = some (.iload_n 2) by decide +kernel) rfl ?_
  refine jr_1 jm_275 (show jw_cd cd_275 60 = some (.ifCond .eq 183) by decide +kernel) (mz_f (q := .eq) (a := 1) (by show ¬ (1 = 0); omega) ⟨by omega, by omega⟩ (by decide)) ?_
  refine jr_1 jm_275 (show jw_cd cd_275 63 = some (.aload_n 0) by decide +kernel) rfl ?_
  refine jr_1 jm_275 (show jw_cd cd_275 64 = some (.getfield 101) by decide +kernel) (mg_a hl (a := 46) (show jw_fld 34 101 16 = some 43 by decide +kernel) (by decide) (by decide)) ?_
  refine jr_1 jm_275 (show jw_cd cd_275 67 = some (.iload_n 1) by decide +kernel) rfl ?_
  refine jr_1 jm_275 (show jw_cd cd_275 68 = some (.iaload) by decide +kernel) (ma_i hl (i := dp) (e := v) 43 (by omega) (by show _ < ((400 : Nat) : Int); omega) q43 (by decide) (by decide) (by decide)) ?_
  refine jr_1 jm_275 (F2 := (70, [some (.ref 15), some (.int (Int32.ofInt (dp))), some (.int (Int32.ofInt (1))), some (.int (Int32.ofInt (v))), c4], [], ml_mk h τ)) (show jw_cd cd_275 69 = some (.istore_n 3) by decide +kernel) rfl ?_
  refine jr_1 jm_275 (show jw_cd cd_275 70 = some (.aload_n 0) by decide +kernel) rfl ?_
  refine jr_1 jm_275 (show jw_cd cd_275 71 = some (.getfield 104) by decide +kernel) (mg_a hl (a := 47) (show jw_fld 34 104 16 = some 44 by decide +kernel) (by decide) (by decide)) ?_
  refine jr_1 jm_275 (show jw_cd cd_275 74 = some (.iload_n 1) by decide +kernel) rfl ?_
  refine jr_1 jm_275 (show jw_cd cd_275 75 = some (.iaload) by decide +kernel) (ma_i hl (i := dp) (e := -1) 44 (by omega) (by show _ < ((400 : Nat) : Int); omega) q44 (by decide) (by decide) (by decide)) ?_
  refine jr_1 jm_275 (F2 := (78, [some (.ref 15), some (.int (Int32.ofInt (dp))), some (.int (Int32.ofInt (1))), some (.int (Int32.ofInt (v))), some (.int (Int32.ofInt (-1)))], [], ml_mk h τ)) (show jw_cd cd_275 76 = some (.istore 4) by decide +kernel) rfl ?_
  refine jr_1 jm_275 (show jw_cd cd_275 78 = some (.iload 4) by decide +kernel) rfl ?_
  refine jr_1 jm_275 (show jw_cd cd_275 80 = some (.iconst (-1)) by decide +kernel) rfl ?_
  refine jr_1 jm_275 (show jw_cd cd_275 81 = some (.if_icmp .ne 40) by decide +kernel) (mb_f (q := .ne) (a := -1) (b := -1) (by show ¬ (¬ (-1 = -1)); omega) ⟨by omega, by omega⟩ ⟨by omega, by omega⟩ (by decide)) ?_
  refine jr_1 jm_275 (show jw_cd cd_275 84 = some (.aload_n 0) by decide +kernel) rfl ?_
  refine jr_1 jm_275 (show jw_cd cd_275 85 = some (.aload_n 0) by decide +kernel) rfl ?_
  refine jr_1 jm_275 (show jw_cd cd_275 86 = some (.getfield 13) by decide +kernel) (mg_a hl (a := 17) (show jw_fld 34 13 16 = some 3 by decide +kernel) (by decide) (by decide)) ?_
  refine jr_1 jm_275 (show jw_cd cd_275 89 = some (.iload_n 3) by decide +kernel) rfl ?_
  refine jr_1 jm_275 (show jw_cd cd_275 90 = some (.iaload) by decide +kernel) (ma_i hl (i := v) (e := kd) 3 (by omega) (by show _ < ((1740 : Nat) : Int); omega) q3 (by decide) (by decide) (by decide)) ?_
  refine jr_1 jm_275 (show jw_cd cd_275 91 = some (.iconst 5) by decide +kernel) rfl ?_
  by_cases hk : kd = 5
  · rw [if_pos hk] at kk
    refine jr_1 jm_275 (show jw_cd cd_275 92 = some (.if_icmp .ne 8) by decide +kernel) (mb_f (q := .ne) (a := kd) (b := 5) (fun z => z hk) ⟨by omega, by omega⟩ ⟨by omega, by omega⟩ (by decide)) ?_
    refine jr_1 jm_275 (show jw_cd cd_275 95 = some (.bipush 93) by decide +kernel) (mt_bi (by decide)) ?_
    refine jr_1 jm_275 (show jw_cd cd_275 97 = some (.goto 5) by decide +kernel) (ju_go (t := 102) (by decide)) ?_
    refine jr_c jm_275 (show jw_cd cd_275 102 = some (.invokevirtual 356) by decide +kernel) (mc_v hl (n := 1) (m2 := 277) (bs := [.int (Int32.ofInt (93))]) (r := []) (show jw_find jw_cvT 34 356 = some (1, [(16, 277)]) by decide +kernel) (by decide) rfl rfl rfl) jm_277 ⟨Nat.le_of_ble_eq_true rfl, by decide⟩ (jn_markP hl hp (by omega)) ?_
    refine jr_1 jm_275 (F2 := (108, [some (.ref 15), some (.int (Int32.ofInt (dp - 1))), some (.int (Int32.ofInt (1))), some (.int (Int32.ofInt (v))), some (.int (Int32.ofInt (-1)))], [], ml_mk h (mMark τ (93)))) (show jw_cd cd_275 105 = some (.iinc 1 (-1)) by decide +kernel) (mt_inc (a := dp) (c := dp - 1) rfl (by omega) rfl) ?_
    refine jr_1 jm_275 (show jw_cd cd_275 108 = some (.iload_n 1) by decide +kernel) rfl ?_
    refine jr_1 jm_275 (show jw_cd cd_275 109 = some (.ifCond .lt 7) by decide +kernel) (mz_t (q := .lt) (a := dp - 1) (t := 116) (by show dp - 1 < 0; omega) ⟨by omega, by omega⟩ (by decide) (by decide)) ?_
    refine jr_1 jm_275 (show jw_cd cd_275 116 = some (.iconst 0) by decide +kernel) rfl ?_
    refine jr_1 jm_275 (F2 := (118, [some (.ref 15), some (.int (Int32.ofInt (dp - 1))), some (.int (Int32.ofInt (0))), some (.int (Int32.ofInt (v))), some (.int (Int32.ofInt (-1)))], [], ml_mk h (mMark τ (93)))) (show jw_cd cd_275 117 = some (.istore_n 2) by decide +kernel) rfl ?_
    refine jr_1 jm_275 (show jw_cd cd_275 118 = some (.goto 122) by decide +kernel) (ju_go (t := 240) (by decide)) ?_
    refine jr_1 jm_275 (show jw_cd cd_275 240 = some (.goto (-181)) by decide +kernel) (ju_go (t := 59) (by decide)) ?_
    exact kk
  · rw [if_neg hk] at kk
    refine jr_1 jm_275 (show jw_cd cd_275 92 = some (.if_icmp .ne 8) by decide +kernel) (mb_t (q := .ne) (a := kd) (b := 5) (t := 100) hk ⟨by omega, by omega⟩ ⟨by omega, by omega⟩ (by decide) (by decide)) ?_
    refine jr_1 jm_275 (show jw_cd cd_275 100 = some (.bipush 125) by decide +kernel) (mt_bi (by decide)) ?_
    refine jr_c jm_275 (show jw_cd cd_275 102 = some (.invokevirtual 356) by decide +kernel) (mc_v hl (n := 1) (m2 := 277) (bs := [.int (Int32.ofInt (125))]) (r := []) (show jw_find jw_cvT 34 356 = some (1, [(16, 277)]) by decide +kernel) (by decide) rfl rfl rfl) jm_277 ⟨Nat.le_of_ble_eq_true rfl, by decide⟩ (jn_markP hl hp (by omega)) ?_
    refine jr_1 jm_275 (F2 := (108, [some (.ref 15), some (.int (Int32.ofInt (dp - 1))), some (.int (Int32.ofInt (1))), some (.int (Int32.ofInt (v))), some (.int (Int32.ofInt (-1)))], [], ml_mk h (mMark τ (125)))) (show jw_cd cd_275 105 = some (.iinc 1 (-1)) by decide +kernel) (mt_inc (a := dp) (c := dp - 1) rfl (by omega) rfl) ?_
    refine jr_1 jm_275 (show jw_cd cd_275 108 = some (.iload_n 1) by decide +kernel) rfl ?_
    refine jr_1 jm_275 (show jw_cd cd_275 109 = some (.ifCond .lt 7) by decide +kernel) (mz_t (q := .lt) (a := dp - 1) (t := 116) (by show dp - 1 < 0; omega) ⟨by omega, by omega⟩ (by decide) (by decide)) ?_
    refine jr_1 jm_275 (show jw_cd cd_275 116 = some (.iconst 0) by decide +kernel) rfl ?_
    refine jr_1 jm_275 (F2 := (118, [some (.ref 15), some (.int (Int32.ofInt (dp - 1))), some (.int (Int32.ofInt (0))), some (.int (Int32.ofInt (v))), some (.int (Int32.ofInt (-1)))], [], ml_mk h (mMark τ (125)))) (show jw_cd cd_275 117 = some (.istore_n 2) by decide +kernel) rfl ?_
    refine jr_1 jm_275 (show jw_cd cd_275 118 = some (.goto 122) by decide +kernel) (ju_go (t := 240) (by decide)) ?_
    refine jr_1 jm_275 (show jw_cd cd_275 240 = some (.goto (-181)) by decide +kernel) (ju_go (t := 59) (by decide)) ?_
    exact kk
theorem jn_wr_0 {β : Bool} {d : Nat} {h : jx_H} {σ : mS} (hl : 49 ≤ h.length) {τ : mS} {v x dp : Int} {c3 c4 : Option Value} (hx : 0 ≤ x ∧ x < 1740) (hd : 0 ≤ dp ∧ dp < 400) (q43 : τ 43 dp = v) (q44 : τ 44 dp = x) : ∀ res, jx_r (jz β) jw_M (d + 4 + 1) 275 (121, [some (.ref 15), some (.int (Int32.ofInt (dp))), some (.int (Int32.ofInt (1))), some (.int (Int32.ofInt (v))), some (.int (Int32.ofInt (x)))], [], ml_mk h τ) res → jx_r (jz β) jw_M (d + 4 + 1) 275 (59, [some (.ref 15), some (.int (Int32.ofInt (dp))), some (.int (Int32.ofInt (1))), c3, c4], [], ml_mk h τ) res := by
  obtain ⟨x0, x1⟩ := hx
  obtain ⟨d0, d1⟩ := hd
  intro res kk
  refine jr_1 jm_275 (show jw_cd cd_275 59 = some (.iload_n 2) by decide +kernel) rfl ?_
  refine jr_1 jm_275 (show jw_cd cd_275 60 = some (.ifCond .eq 183) by decide +kernel) (mz_f (q := .eq) (a := 1) (by show ¬ (1 = 0); omega) ⟨by omega, by omega⟩ (by decide)) ?_
  refine jr_1 jm_275 (show jw_cd cd_275 63 = some (.aload_n 0) by decide +kernel) rfl ?_
  refine jr_1 jm_275 (show jw_cd cd_275 64 = some (.getfield 101) by decide +kernel) (mg_a hl (a := 46) (show jw_fld 34 101 16 = some 43 by decide +kernel) (by decide) (by decide)) ?_
  refine jr_1 jm_275 (show jw_cd cd_275 67 = some (.iload_n 1) by decide +kernel) rfl ?_
  refine jr_1 jm_275 (show jw_cd cd_275 68 = some (.iaload) by decide +kernel) (ma_i hl (i := dp) (e := v) 43 (by omega) (by show _ < ((400 : Nat) : Int); omega) q43 (by decide) (by decide) (by decide)) ?_
  refine jr_1 jm_275 (F2 := (70, [some (.ref 15), some (.int (Int32.ofInt (dp))), some (.int (Int32.ofInt (1))), some (.int (Int32.ofInt (v))), c4], [], ml_mk h τ)) (show jw_cd cd_275 69 = some (.istore_n 3) by decide +kernel) rfl ?_
  refine jr_1 jm_275 (show jw_cd cd_275 70 = some (.aload_n 0) by decide +kernel) rfl ?_
  refine jr_1 jm_275 (show jw_cd cd_275 71 = some (.getfield 104) by decide +kernel) (mg_a hl (a := 47) (show jw_fld 34 104 16 = some 44 by decide +kernel) (by decide) (by decide)) ?_
  refine jr_1 jm_275 (show jw_cd cd_275 74 = some (.iload_n 1) by decide +kernel) rfl ?_
  refine jr_1 jm_275 (show jw_cd cd_275 75 = some (.iaload) by decide +kernel) (ma_i hl (i := dp) (e := x) 44 (by omega) (by show _ < ((400 : Nat) : Int); omega) q44 (by decide) (by decide) (by decide)) ?_
  refine jr_1 jm_275 (F2 := (78, [some (.ref 15), some (.int (Int32.ofInt (dp))), some (.int (Int32.ofInt (1))), some (.int (Int32.ofInt (v))), some (.int (Int32.ofInt (x)))], [], ml_mk h τ)) (show jw_cd cd_275 76 = some (.istore 4) by decide +kernel) rfl ?_
  refine jr_1 jm_275 (show jw_cd cd_275 78 = some (.iload 4) by decide +kernel) rfl ?_
  refine jr_1 jm_275 (show jw_cd cd_275 80 = some (.iconst (-1)) by decide +kernel) rfl ?_
  refine jr_1 jm_275 (show jw_cd cd_275 81 = some (.if_icmp .ne 40) by decide +kernel) (mb_t (q := .ne) (a := x) (b := -1) (t := 121) (by show ¬ (x = -1); omega) ⟨by omega, by omega⟩ ⟨by omega, by omega⟩ (by decide) (by decide)) ?_
  exact kk

/-! ===== the class: sorted (printed by program: gen132.py) ===== -/
theorem jm_183 : jw_M 183 = some (10, 5, ((Option.some (Jvm.ClassFile.FieldType.object "PickDesk$Value")), false), jw_cd cd_183, fun _ _ => none) := rfl
def kzI (kk : Int) (i : tI) : Int := if kk = 3 then i.2.1 else pk i.2.2.1
theorem abv_kz {kk : Int} {i j : tI} (hi : i.1 = kk) : abv i j = decide (kzI kk j < kzI kk i) := by
  unfold abv kzI
  rw [hi]
  by_cases h : kk = 3
  · rw [if_pos h, if_pos h, if_pos h]
  · rw [if_neg h, if_neg h, if_neg h]
def entP (s : List Int) (kk : Int) (e : eT) : Prop := vrank s e.2.1 e.2.2 = some e.1 ∧ vok e.2 ∧ vok e.1 ∧ e.1.1.1 = kk
def srtd (kk : Int) (A : List eT) : Prop := A.Pairwise fun x y => kzI kk x.1.1 ≤ kzI kk y.1.1
def insE (p : Nat) (e : eT) (A : List eT) : List eT := A.take p ++ e :: A.drop p
theorem insE_map (p : Nat) (e : eT) (A : List eT) : ((insE p e A).map fun e => e.2) = insP p e.2 (A.map fun e => e.2) := by
  unfold insE insP
  rw [List.map_append, List.map_cons, List.map_take, List.map_drop]
theorem insR_app (e : eT) : ∀ (xs ys : List eT), (∀ x ∈ xs, abv x.1.1 e.1.1 = true) → insR e (xs ++ ys) = xs ++ insR e ys
  | [], ys, _ => rfl
  | x :: xs, ys, h => by
    show (if abv x.1.1 e.1.1 = true then x :: insR e (xs ++ ys) else e :: x :: (xs ++ ys)) = _
    rw [if_pos (h x List.mem_cons_self), insR_app e xs ys (fun y hy => h y (List.mem_cons_of_mem _ hy))]
    rfl
theorem insR_hd (e : eT) (ys : List eT) (h : ∀ y ∈ ys, ¬ abv y.1.1 e.1.1 = true) : insR e ys = e :: ys := by
  cases ys with
  | nil => rfl
  | cons y ys =>
    show (if abv y.1.1 e.1.1 = true then y :: insR e ys else e :: y :: ys) = _
    rw [if_neg (h y List.mem_cons_self)]
theorem insR_E {p : Nat} {e : eT} {A : List eT} (h1 : ∀ x ∈ A.take p, ¬ abv x.1.1 e.1.1 = true) (h2 : ∀ x ∈ A.drop p, abv x.1.1 e.1.1 = true) : insR e A.reverse = (insE p e A).reverse := by
  have e1 : A.reverse = (A.drop p).reverse ++ (A.take p).reverse := by rw [← List.reverse_append, List.take_append_drop]
  rw [e1, insR_app e _ _ (fun x hx => h2 x (List.mem_reverse.mp hx)), insR_hd e _ (fun x hx => h1 x (List.mem_reverse.mp hx))]
  unfold insE
  rw [List.reverse_append, List.reverse_cons, List.append_assoc]
  rfl
theorem srtd_E {kk : Int} {p : Nat} {e : eT} {A : List eT} (hA : srtd kk A) (h1 : ∀ x ∈ A.take p, kzI kk x.1.1 ≤ kzI kk e.1.1) (h2 : ∀ x ∈ A.drop p, kzI kk e.1.1 < kzI kk x.1.1) : srtd kk (insE p e A) := by
  have hA : (A.take p ++ A.drop p).Pairwise fun x y => kzI kk x.1.1 ≤ kzI kk y.1.1 := by rw [List.take_append_drop]; exact hA
  obtain ⟨a1, a2, a3⟩ := List.pairwise_append.mp hA
  refine List.pairwise_append.mpr ⟨a1, List.pairwise_cons.mpr ⟨fun x hx => by have := h2 x hx; omega, a2⟩, fun x hx y hy => ?_⟩
  rcases List.mem_cons.mp hy with rfl | hy
  · exact h1 x hx
  · exact a3 x hx y hy
theorem i32_half {x : Int} (h0 : 0 ≤ x) (h1 : x ≤ 100000) : Int32.ofInt x / Int32.ofInt 2 = Int32.ofInt (x / 2) := by
  apply Int32.toInt_inj.mp
  have e1 : (Int32.ofInt x).toInt = x := Int32.toInt_ofInt_of_le (by omega) (by show x < (2 ^ 31 : Int); omega)
  have e2 : (Int32.ofInt 2).toInt = 2 := by decide
  have e3 : (Int32.ofInt (x / 2)).toInt = x / 2 := Int32.toInt_ofInt_of_le (by omega) (by show x / 2 < (2 ^ 31 : Int); omega)
  rw [Int32.toInt_div, e1, e2, e3, Int.tdiv_eq_ediv_of_nonneg h0]
  exact Int.bmod_eq_of_le (by show -(2 ^ 32 / 2 : Int) ≤ x / 2; omega) (by show x / 2 < ((2 ^ 32 : Nat) + 1) / 2; omega)
theorem mt_half {β : Bool} {cd : Nat → Option Instr} {own pc : Nat} {rt : Option FieldType × Bool} {lo : jx_L} {st : List Value} {H : jx_H} {x y : Int} (h0 : 0 ≤ x) (h1 : x ≤ 100000) (hy : x / 2 = y) : jx_do (jz β) cd own pc rt .idiv lo (.int (Int32.ofInt 2) :: .int (Int32.ofInt x) :: st) H = some (.inl (pc + 1, lo, .int (Int32.ofInt y) :: st, H)) := by
  simp only [jx_do, if_neg (show ¬ Int32.ofInt 2 = 0 by decide), i32_half h0 h1, hy]
theorem jc_plL {β : Bool} {d : Nat} {h : jx_H} {κ : mS} (hl : 50 ≤ h.length) {X Y : Nat → Prop} {a ka ia ic rk t0 : Nat} {f : Nat → Value} {A : List eT} {r : vT} {s : List Int} {kk : Int} (ha : 50 ≤ a ∧ a < 4000000000) (hia : 50 ≤ ia ∧ ia < 4000000000) (oA : h[a]? = some (.inr (5, [.int (Int32.ofInt (5)), .int (Int32.ofInt (0)), .ref (jx_big + 9), .ref ka, .ref ia, .int (Int32.ofInt (((A.length : Nat) : Int)))]))) (oI : h[ia]? = some (.inl (4, ic, f))) (hic : A.length ≤ ic ∧ ic ≤ 2000) (hrow : ∀ (q : Nat) (y : vT), (A.map fun e => e.2)[q]? = some y → ∃ it, f q = .ref it ∧ vN h X it y.1 y.2) (hE : ∀ e ∈ A, entP s kk e) (hS : srtd kk A) (ht : strR h Y t0 s) (hs : tx s) (hr : vO h κ X rk r.1 r.2) (hrok : iok r.1) (hrk : r.1.1 = kk) : ∀ (n i lw hg : Nat) (t7 : Option Value), i + n = A.length → lw ≤ hg → hg ≤ A.length → hg - lw ≤ n → (∀ x ∈ A.take lw, kzI kk x.1.1 ≤ kzI kk r.1) → (∀ x ∈ A.drop hg, kzI kk r.1 < kzI kk x.1.1) → ∃ p : Nat, jx_r (jz β) jw_M (d + 5) 184 (12, [some (.ref 11), some (.ref a), some (.ref rk), some (.ref t0), some (.int (Int32.ofInt (((lw : Nat) : Int)))), some (.int (Int32.ofInt (((hg : Nat) : Int)))), some (.int (Int32.ofInt (((i : Nat) : Int)))), t7], [], (cl_mk h κ)) (cl_mk h (κ), .inl (some (.int (Int32.ofInt (((p : Nat) : Int)))))) ∧ p ≤ A.length ∧ (∀ x ∈ A.take p, kzI kk x.1.1 ≤ kzI kk r.1) ∧ (∀ x ∈ A.drop p, kzI kk r.1 < kzI kk x.1.1) := by
  intro n
  induction n with
  | zero =>
    intro i lw hg t7 hi hlh hhn hd h1 h2
    obtain rfl : lw = hg := by omega
    refine ⟨lw, ?_, hhn, h1, h2⟩
    refine jr_1 jm_184 (show jw_cd cd_184 12 = some (.iload 6) by decide +kernel) rfl ?_
    refine jr_1 jm_184 (show jw_cd cd_184 14 = some (.aload_n 1) by decide +kernel) rfl ?_
    refine jr_1 jm_184 (show jw_cd cd_184 15 = some (.getfield 44) by decide +kernel) (js_getf (cl_old hl ⟨by omega, oA⟩) (jbg (by omega)) (show jw_fld 10 44 5 = some 5 by decide +kernel) rfl) ?_
    refine jr_1 jm_184 (show jw_cd cd_184 18 = some (.if_icmp .ge 57) by decide +kernel) (mb_t (q := .ge) (a := ((i : Nat) : Int)) (b := ((A.length : Nat) : Int)) (t := 75) (by show ((A.length : Nat) : Int) ≤ ((i : Nat) : Int); omega) ⟨by omega, by omega⟩ ⟨by omega, by omega⟩ (by decide) (by decide)) ?_
    refine jr_1 jm_184 (show jw_cd cd_184 75 = some (.iload 4) by decide +kernel) rfl ?_
    exact jr_v jm_184 (show jw_cd cd_184 77 = some (.ireturn) by decide +kernel) rfl
  | succ n ih =>
    intro i lw hg t7 hi hlh hhn hd h1 h2
    by_cases hlt : ¬ lw < hg
    · obtain rfl : lw = hg := by omega
      refine ⟨lw, ?_, hhn, h1, h2⟩
      refine jr_1 jm_184 (show jw_cd cd_184 12 = some (.iload 6) by decide +kernel) rfl ?_
      refine jr_1 jm_184 (show jw_cd cd_184 14 = some (.aload_n 1) by decide +kernel) rfl ?_
      refine jr_1 jm_184 (show jw_cd cd_184 15 = some (.getfield 44) by decide +kernel) (js_getf (cl_old hl ⟨by omega, oA⟩) (jbg (by omega)) (show jw_fld 10 44 5 = some 5 by decide +kernel) rfl) ?_
      refine jr_1 jm_184 (show jw_cd cd_184 18 = some (.if_icmp .ge 57) by decide +kernel) (mb_f (q := .ge) (a := ((i : Nat) : Int)) (b := ((A.length : Nat) : Int)) (by show ¬ (((A.length : Nat) : Int) ≤ ((i : Nat) : Int)); omega) ⟨by omega, by omega⟩ ⟨by omega, by omega⟩ (by decide)) ?_
      refine jr_1 jm_184 (show jw_cd cd_184 21 = some (.iload 4) by decide +kernel) rfl ?_
      refine jr_1 jm_184 (show jw_cd cd_184 23 = some (.iload 5) by decide +kernel) rfl ?_
      refine jr_1 jm_184 (show jw_cd cd_184 25 = some (.if_icmp .ge 50) by decide +kernel) (mb_t (q := .ge) (a := ((lw : Nat) : Int)) (b := ((lw : Nat) : Int)) (t := 75) (by show ((lw : Nat) : Int) ≤ ((lw : Nat) : Int); omega) ⟨by omega, by omega⟩ ⟨by omega, by omega⟩ (by decide) (by decide)) ?_
      refine jr_1 jm_184 (show jw_cd cd_184 75 = some (.iload 4) by decide +kernel) rfl ?_
      exact jr_v jm_184 (show jw_cd cd_184 77 = some (.ireturn) by decide +kernel) rfl
    have hlt : lw < hg := by omega
    obtain ⟨md, emd⟩ : ∃ md, md = (lw + hg) / 2 := ⟨_, rfl⟩
    obtain ⟨e, he⟩ := gE_lt (l := A) (i := md) (by omega)
    have hem := hE e (List.mem_of_getElem? he)
    obtain ⟨it, hit, hitv⟩ := hrow md e.2 (by rw [List.getElem?_map, he]; rfl)
    obtain ⟨cm, c1, hcq⟩ := jc_rank (β := β) (d := d + 1) (κ := κ) (v := e.2) hl (Or.inr hitv) hem.2.1 ht hs
    rw [hem.1] at hcq
    have hcm : vO h κ X cm e.1.1 e.1.2 := vR_O (κ := κ) hl (vQ_R hcq)
    obtain ⟨o, c2, o1, -, o3, o4⟩ := jc_order (β := β) (d := d) (κ := κ) hl hcm hr hem.2.2.1.1 hrok (by rw [hem.2.2.2, hrk])
    rw [abv_kz hem.2.2.2, decide_eq_true_eq] at o1
    have hmd := (List.getElem?_eq_some_iff.mp he).1
    have hme : A[md] = e := (List.getElem?_eq_some_iff.mp he).2
    have mono := List.pairwise_iff_getElem.mp hS
    by_cases hup : 0 < o
    · have hk := o1.mp hup
      obtain ⟨p, r1, r2, r3, r4⟩ := ih (i + 1) lw md (some (.int (Int32.ofInt ((md : Nat) : Int)))) (by omega) (by omega) (by omega) (by omega) h1 (fun x hx => by
        obtain ⟨q, hq, eq⟩ := List.mem_iff_getElem.mp hx
        rw [List.getElem_drop] at eq
        rw [List.length_drop] at hq
        by_cases q0 : q = 0
        · subst q0
          have : x = e := by rw [← eq, ← hme]; rfl
          rw [this]
          exact hk
        · have := mono md (md + q) hmd (by omega) (by omega)
          rw [hme, eq] at this
          omega)
      refine ⟨p, ?_, r2, r3, r4⟩
      refine jr_1 jm_184 (show jw_cd cd_184 12 = some (.iload 6) by decide +kernel) rfl ?_
      refine jr_1 jm_184 (show jw_cd cd_184 14 = some (.aload_n 1) by decide +kernel) rfl ?_
      refine jr_1 jm_184 (show jw_cd cd_184 15 = some (.getfield 44) by decide +kernel) (js_getf (cl_old hl ⟨by omega, oA⟩) (jbg (by omega)) (show jw_fld 10 44 5 = some 5 by decide +kernel) rfl) ?_
      refine jr_1 jm_184 (show jw_cd cd_184 18 = some (.if_icmp .ge 57) by decide +kernel) (mb_f (q := .ge) (a := ((i : Nat) : Int)) (b := ((A.length : Nat) : Int)) (by show ¬ (((A.length : Nat) : Int) ≤ ((i : Nat) : Int)); omega) ⟨by omega, by omega⟩ ⟨by omega, by omega⟩ (by decide)) ?_
      refine jr_1 jm_184 (show jw_cd cd_184 21 = some (.iload 4) by decide +kernel) rfl ?_
      refine jr_1 jm_184 (show jw_cd cd_184 23 = some (.iload 5) by decide +kernel) rfl ?_
      refine jr_1 jm_184 (show jw_cd cd_184 25 = some (.if_icmp .ge 50) by decide +kernel) (mb_f (q := .ge) (a := ((lw : Nat) : Int)) (b := ((hg : Nat) : Int)) (by show ¬ (((hg : Nat) : Int) ≤ ((lw : Nat) : Int)); omega) ⟨by omega, by omega⟩ ⟨by omega, by omega⟩ (by decide)) ?_
      refine jr_1 jm_184 (show jw_cd cd_184 28 = some (.iload 4) by decide +kernel) rfl ?_
      refine jr_1 jm_184 (show jw_cd cd_184 30 = some (.iload 5) by decide +kernel) rfl ?_
      refine jr_1 jm_184 (show jw_cd cd_184 32 = some (.iadd) by decide +kernel) (mt_add (c := ((lw : Nat) : Int) + (((hg : Nat) : Int))) rfl) ?_
      refine jr_1 jm_184 (show jw_cd cd_184 33 = some (.iconst 2) by decide +kernel) rfl ?_
      refine jr_1 jm_184 (show jw_cd cd_184 34 = some (.idiv) by decide +kernel) (mt_half (y := ((md : Nat) : Int)) (by omega) (by omega) (by omega)) ?_
      refine jr_1 jm_184 (F2 := (37, [some (.ref 11), some (.ref a), some (.ref rk), some (.ref t0), some (.int (Int32.ofInt (((lw : Nat) : Int)))), some (.int (Int32.ofInt (((hg : Nat) : Int)))), some (.int (Int32.ofInt (((i : Nat) : Int)))), some (.int (Int32.ofInt (((md : Nat) : Int))))], [], (cl_mk h κ))) (show jw_cd cd_184 35 = some (.istore 7) by decide +kernel) rfl ?_
      refine jr_1 jm_184 (show jw_cd cd_184 37 = some (.aload_n 0) by decide +kernel) rfl ?_
      refine jr_1 jm_184 (show jw_cd cd_184 38 = some (.aload_n 1) by decide +kernel) rfl ?_
      refine jr_1 jm_184 (show jw_cd cd_184 39 = some (.getfield 47) by decide +kernel) (js_getf (cl_old hl ⟨by omega, oA⟩) (jbg (by omega)) (show jw_fld 10 47 5 = some 4 by decide +kernel) rfl) ?_
      refine jr_1 jm_184 (show jw_cd cd_184 42 = some (.iload 7) by decide +kernel) rfl ?_
      refine jr_1 jm_184 (show jw_cd cd_184 44 = some (.aaload) by decide +kernel) (cal_a (e := .ref it) (jx_ar_h (cl_old hl ⟨by omega, oI⟩) (jbg (by omega))) (Or.inl rfl) (by omega) (by omega) (by omega) (by rw [Int.toNat_natCast]; exact hit)) ?_
      refine jr_1 jm_184 (show jw_cd cd_184 45 = some (.aload_n 3) by decide +kernel) rfl ?_
      refine jr_c jm_184 (show jw_cd cd_184 46 = some (.invokevirtual 51) by decide +kernel) (ccv (n := 2) (m2 := 178) (ci := 7) (a := 11) (bs := [.ref it, .ref t0]) (r := []) (js_cls cl_c11 (by decide)) (show jw_find jw_cvT 10 51 = some (2, [(7, 178)]) by decide +kernel) (by decide) rfl rfl rfl) jm_178 ⟨Nat.le_of_ble_eq_true rfl, by decide⟩ c1 ?_
      refine jr_1 jm_184 (show jw_cd cd_184 49 = some (.aload_n 2) by decide +kernel) rfl ?_
      refine jr_c jm_184 (show jw_cd cd_184 50 = some (.invokevirtual 135) by decide +kernel) (ccv (n := 1) (m2 := 185) (ci := 5) (a := cm) (bs := [.ref rk]) (r := []) (vO_cls hcm) (show jw_find jw_cvT 10 135 = some (1, [(5, 185)]) by decide +kernel) (by decide) rfl rfl rfl) jm_185 ⟨Nat.le_of_ble_eq_true rfl, by decide⟩ c2 ?_
      refine jr_1 jm_184 (show jw_cd cd_184 53 = some (.ifCond .le 10) by decide +kernel) (mz_f (q := .le) (a := o) (by show ¬ (o ≤ 0); omega) ⟨by omega, by omega⟩ (by decide)) ?_
      refine jr_1 jm_184 (show jw_cd cd_184 56 = some (.iload 7) by decide +kernel) rfl ?_
      refine jr_1 jm_184 (F2 := (60, [some (.ref 11), some (.ref a), some (.ref rk), some (.ref t0), some (.int (Int32.ofInt (((lw : Nat) : Int)))), some (.int (Int32.ofInt (((md : Nat) : Int)))), some (.int (Int32.ofInt (((i : Nat) : Int)))), some (.int (Int32.ofInt (((md : Nat) : Int))))], [], (cl_mk h κ))) (show jw_cd cd_184 58 = some (.istore 5) by decide +kernel) rfl ?_
      refine jr_1 jm_184 (show jw_cd cd_184 60 = some (.goto 9) by decide +kernel) (ju_go (t := 69) (by decide)) ?_
      refine jr_1 jm_184 (F2 := (72, [some (.ref 11), some (.ref a), some (.ref rk), some (.ref t0), some (.int (Int32.ofInt (((lw : Nat) : Int)))), some (.int (Int32.ofInt (((md : Nat) : Int)))), some (.int (Int32.ofInt (((i : Nat) : Int) + 1))), some (.int (Int32.ofInt (((md : Nat) : Int))))], [], (cl_mk h κ))) (show jw_cd cd_184 69 = some (.iinc 6 1) by decide +kernel) (mt_inc (a := ((i : Nat) : Int)) (c := ((i : Nat) : Int) + 1) rfl (by omega) rfl) ?_
      refine jr_1 jm_184 (show jw_cd cd_184 72 = some (.goto (-60)) by decide +kernel) (ju_go (t := 12) (by decide)) ?_
      exact r1
    · have hk : ¬ kzI kk r.1 < kzI kk e.1.1 := fun z => hup (o1.mpr z)
      obtain ⟨p, r1, r2, r3, r4⟩ := ih (i + 1) (md + 1) hg (some (.int (Int32.ofInt ((md : Nat) : Int)))) (by omega) (by omega) (by omega) (by omega) (fun x hx => by
        obtain ⟨q, hq, eq⟩ := List.mem_iff_getElem.mp hx
        rw [List.getElem_take] at eq
        rw [List.length_take] at hq
        by_cases q0 : q = md
        · subst q0
          rw [hme] at eq
          rw [← eq]
          omega
        · have := mono q md (by omega) hmd (by omega)
          rw [hme, eq] at this
          omega) h2
      refine ⟨p, ?_, r2, r3, r4⟩
      refine jr_1 jm_184 (show jw_cd cd_184 12 = some (.iload 6) by decide +kernel) rfl ?_
      refine jr_1 jm_184 (show jw_cd cd_184 14 = some (.aload_n 1) by decide +kernel) rfl ?_
      refine jr_1 jm_184 (show jw_cd cd_184 15 = some (.getfield 44) by decide +kernel) (js_getf (cl_old hl ⟨by omega, oA⟩) (jbg (by omega)) (show jw_fld 10 44 5 = some 5 by decide +kernel) rfl) ?_
      refine jr_1 jm_184 (show jw_cd cd_184 18 = some (.if_icmp .ge 57) by decide +kernel) (mb_f (q := .ge) (a := ((i : Nat) : Int)) (b := ((A.length : Nat) : Int)) (by show ¬ (((A.length : Nat) : Int) ≤ ((i : Nat) : Int)); omega) ⟨by omega, by omega⟩ ⟨by omega, by omega⟩ (by decide)) ?_
      refine jr_1 jm_184 (show jw_cd cd_184 21 = some (.iload 4) by decide +kernel) rfl ?_
      refine jr_1 jm_184 (show jw_cd cd_184 23 = some (.iload 5) by decide +kernel) rfl ?_
      refine jr_1 jm_184 (show jw_cd cd_184 25 = some (.if_icmp .ge 50) by decide +kernel) (mb_f (q := .ge) (a := ((lw : Nat) : Int)) (b := ((hg : Nat) : Int)) (by show ¬ (((hg : Nat) : Int) ≤ ((lw : Nat) : Int)); omega) ⟨by omega, by omega⟩ ⟨by omega, by omega⟩ (by decide)) ?_
      refine jr_1 jm_184 (show jw_cd cd_184 28 = some (.iload 4) by decide +kernel) rfl ?_
      refine jr_1 jm_184 (show jw_cd cd_184 30 = some (.iload 5) by decide +kernel) rfl ?_
      refine jr_1 jm_184 (show jw_cd cd_184 32 = some (.iadd) by decide +kernel) (mt_add (c := ((lw : Nat) : Int) + (((hg : Nat) : Int))) rfl) ?_
      refine jr_1 jm_184 (show jw_cd cd_184 33 = some (.iconst 2) by decide +kernel) rfl ?_
      refine jr_1 jm_184 (show jw_cd cd_184 34 = some (.idiv) by decide +kernel) (mt_half (y := ((md : Nat) : Int)) (by omega) (by omega) (by omega)) ?_
      refine jr_1 jm_184 (F2 := (37, [some (.ref 11), some (.ref a), some (.ref rk), some (.ref t0), some (.int (Int32.ofInt (((lw : Nat) : Int)))), some (.int (Int32.ofInt (((hg : Nat) : Int)))), some (.int (Int32.ofInt (((i : Nat) : Int)))), some (.int (Int32.ofInt (((md : Nat) : Int))))], [], (cl_mk h κ))) (show jw_cd cd_184 35 = some (.istore 7) by decide +kernel) rfl ?_
      refine jr_1 jm_184 (show jw_cd cd_184 37 = some (.aload_n 0) by decide +kernel) rfl ?_
      refine jr_1 jm_184 (show jw_cd cd_184 38 = some (.aload_n 1) by decide +kernel) rfl ?_
      refine jr_1 jm_184 (show jw_cd cd_184 39 = some (.getfield 47) by decide +kernel) (js_getf (cl_old hl ⟨by omega, oA⟩) (jbg (by omega)) (show jw_fld 10 47 5 = some 4 by decide +kernel) rfl) ?_
      refine jr_1 jm_184 (show jw_cd cd_184 42 = some (.iload 7) by decide +kernel) rfl ?_
      refine jr_1 jm_184 (show jw_cd cd_184 44 = some (.aaload) by decide +kernel) (cal_a (e := .ref it) (jx_ar_h (cl_old hl ⟨by omega, oI⟩) (jbg (by omega))) (Or.inl rfl) (by omega) (by omega) (by omega) (by rw [Int.toNat_natCast]; exact hit)) ?_
      refine jr_1 jm_184 (show jw_cd cd_184 45 = some (.aload_n 3) by decide +kernel) rfl ?_
      refine jr_c jm_184 (show jw_cd cd_184 46 = some (.invokevirtual 51) by decide +kernel) (ccv (n := 2) (m2 := 178) (ci := 7) (a := 11) (bs := [.ref it, .ref t0]) (r := []) (js_cls cl_c11 (by decide)) (show jw_find jw_cvT 10 51 = some (2, [(7, 178)]) by decide +kernel) (by decide) rfl rfl rfl) jm_178 ⟨Nat.le_of_ble_eq_true rfl, by decide⟩ c1 ?_
      refine jr_1 jm_184 (show jw_cd cd_184 49 = some (.aload_n 2) by decide +kernel) rfl ?_
      refine jr_c jm_184 (show jw_cd cd_184 50 = some (.invokevirtual 135) by decide +kernel) (ccv (n := 1) (m2 := 185) (ci := 5) (a := cm) (bs := [.ref rk]) (r := []) (vO_cls hcm) (show jw_find jw_cvT 10 135 = some (1, [(5, 185)]) by decide +kernel) (by decide) rfl rfl rfl) jm_185 ⟨Nat.le_of_ble_eq_true rfl, by decide⟩ c2 ?_
      refine jr_1 jm_184 (show jw_cd cd_184 53 = some (.ifCond .le 10) by decide +kernel) (mz_t (q := .le) (a := o) (t := 63) (by show o ≤ 0; omega) ⟨by omega, by omega⟩ (by decide) (by decide)) ?_
      refine jr_1 jm_184 (show jw_cd cd_184 63 = some (.iload 7) by decide +kernel) rfl ?_
      refine jr_1 jm_184 (show jw_cd cd_184 65 = some (.iconst 1) by decide +kernel) rfl ?_
      refine jr_1 jm_184 (show jw_cd cd_184 66 = some (.iadd) by decide +kernel) (mt_add (c := ((md : Nat) : Int) + 1) rfl) ?_
      refine jr_1 jm_184 (F2 := (69, [some (.ref 11), some (.ref a), some (.ref rk), some (.ref t0), some (.int (Int32.ofInt (((md : Nat) : Int) + 1))), some (.int (Int32.ofInt (((hg : Nat) : Int)))), some (.int (Int32.ofInt (((i : Nat) : Int)))), some (.int (Int32.ofInt (((md : Nat) : Int))))], [], (cl_mk h κ))) (show jw_cd cd_184 67 = some (.istore 4) by decide +kernel) rfl ?_
      refine jr_1 jm_184 (F2 := (72, [some (.ref 11), some (.ref a), some (.ref rk), some (.ref t0), some (.int (Int32.ofInt (((md : Nat) : Int) + 1))), some (.int (Int32.ofInt (((hg : Nat) : Int)))), some (.int (Int32.ofInt (((i : Nat) : Int) + 1))), some (.int (Int32.ofInt (((md : Nat) : Int))))], [], (cl_mk h κ))) (show jw_cd cd_184 69 = some (.iinc 6 1) by decide +kernel) (mt_inc (a := ((i : Nat) : Int)) (c := ((i : Nat) : Int) + 1) rfl (by omega) rfl) ?_
      refine jr_1 jm_184 (show jw_cd cd_184 72 = some (.goto (-60)) by decide +kernel) (ju_go (t := 12) (by decide)) ?_
      exact r1
theorem jc_place {β : Bool} {d : Nat} {h : jx_H} {κ : mS} (hl : 50 ≤ h.length) {X Y : Nat → Prop} {a ka ia ic rk t0 : Nat} {f : Nat → Value} {A : List eT} {r : vT} {s : List Int} {kk : Int} (ha : 50 ≤ a ∧ a < 4000000000) (hia : 50 ≤ ia ∧ ia < 4000000000) (oA : h[a]? = some (.inr (5, [.int (Int32.ofInt (5)), .int (Int32.ofInt (0)), .ref (jx_big + 9), .ref ka, .ref ia, .int (Int32.ofInt (((A.length : Nat) : Int)))]))) (oI : h[ia]? = some (.inl (4, ic, f))) (hic : A.length ≤ ic ∧ ic ≤ 2000) (hrow : ∀ (q : Nat) (y : vT), (A.map fun e => e.2)[q]? = some y → ∃ it, f q = .ref it ∧ vN h X it y.1 y.2) (hE : ∀ e ∈ A, entP s kk e) (hS : srtd kk A) (ht : strR h Y t0 s) (hs : tx s) (hr : vO h κ X rk r.1 r.2) (hrok : iok r.1) (hrk : r.1.1 = kk) : ∃ p : Nat, jx_r (jz β) jw_M (d + 5) 184 (0, [some (.ref 11), some (.ref a), some (.ref rk), some (.ref t0), none, none, none, none], [], (cl_mk h κ)) (cl_mk h (κ), .inl (some (.int (Int32.ofInt (((p : Nat) : Int)))))) ∧ p ≤ A.length ∧ (∀ x ∈ A.take p, kzI kk x.1.1 ≤ kzI kk r.1) ∧ (∀ x ∈ A.drop p, kzI kk r.1 < kzI kk x.1.1) := by
  obtain ⟨p, r1, r2, r3, r4⟩ := jc_plL (β := β) (d := d) (κ := κ) hl ha hia oA oI hic hrow hE hS ht hs hr hrok hrk A.length 0 0 A.length none (by omega) (Nat.zero_le _) (Nat.le_refl _) (by omega) (fun x hx => by rw [List.take_zero] at hx; cases hx) (fun x hx => by rw [List.drop_length] at hx; cases hx)
  refine ⟨p, ?_, r2, r3, r4⟩
  refine jr_1 jm_184 (show jw_cd cd_184 0 = some (.iconst 0) by decide +kernel) rfl ?_
  refine jr_1 jm_184 (F2 := (3, [some (.ref 11), some (.ref a), some (.ref rk), some (.ref t0), some (.int (Int32.ofInt (0))), none, none, none], [], (cl_mk h κ))) (show jw_cd cd_184 1 = some (.istore 4) by decide +kernel) rfl ?_
  refine jr_1 jm_184 (show jw_cd cd_184 3 = some (.aload_n 1) by decide +kernel) rfl ?_
  refine jr_1 jm_184 (show jw_cd cd_184 4 = some (.getfield 44) by decide +kernel) (js_getf (cl_old hl ⟨by omega, oA⟩) (jbg (by omega)) (show jw_fld 10 44 5 = some 5 by decide +kernel) rfl) ?_
  refine jr_1 jm_184 (F2 := (9, [some (.ref 11), some (.ref a), some (.ref rk), some (.ref t0), some (.int (Int32.ofInt (0))), some (.int (Int32.ofInt (((A.length : Nat) : Int)))), none, none], [], (cl_mk h κ))) (show jw_cd cd_184 7 = some (.istore 5) by decide +kernel) rfl ?_
  refine jr_1 jm_184 (show jw_cd cd_184 9 = some (.iconst 0) by decide +kernel) rfl ?_
  refine jr_1 jm_184 (F2 := (12, [some (.ref 11), some (.ref a), some (.ref rk), some (.ref t0), some (.int (Int32.ofInt (0))), some (.int (Int32.ofInt (((A.length : Nat) : Int)))), some (.int (Int32.ofInt (0))), none], [], (cl_mk h κ))) (show jw_cd cd_184 10 = some (.istore 6) by decide +kernel) rfl ?_
  exact r1
theorem jc_soL {β : Bool} {d : Nat} {κ : mS} {X : Nat → Prop} {N0 a ka ia ic rw t0 : Nat} {g : Nat → Value} {L : List vT} {s : List Int} {kk : Int} (hs : tx s) (hic : L.length ≤ ic ∧ ic ≤ 2000) : ∀ (F : FT) (j : Nat) (A : List eT) (h : jx_H) (f : Nat → Value), sib F = L.drop j → j + fsz F = L.length → A.length = j → fwf F → allK s kk F = true → (kk = 3 ∨ kk = 4) → (∀ e ∈ A, entP s kk e) → srtd kk A → 50 ≤ h.length → h.length < 2900000000 → bL h X N0 a ka ia 0 ic f g 5 (fl (A.map fun e => e.2)) → rowR h (bX X a ka ia) rw L → strR h (bX X a ka ia) t0 s → ∃ (h' : jx_H) (f' : Nat → Value), jx_r (jz β) jw_M (d + 6) 183 (11, [some (.ref 11), some (.ref rw), some (.ref t0), some (.ref a), some (.int (Int32.ofInt (((j : Nat) : Int))))], [], (cl_mk h κ)) (cl_mk h' (κ), .inl (some (.ref (a)))) ∧ bL h' X N0 a ka ia 0 ic f' g 5 (fl ((fsorted s F A.reverse).reverse.map fun e => e.2)) ∧ (∀ (c : Nat) (y : jx_C), c < N0 → h[c]? = some y → h'[c]? = some y) ∧ h'.length = h.length ∧ cvol h' = cvol h
  | .leaf, j, A, h, f, hdr, hj, hA, hw, hK, hk34, hE, hS, hl, hb32, hb, har, ht => by
    have hj : j + 0 = L.length := hj
    obtain ⟨l1, l2, l3, n1, n2, n3, n0⟩ := bL_b hb
    obtain ⟨z, r1, r2, rt, rka, ria, ric, rf, zi, oR, oI, hric, hel⟩ := id har
    have z1 := z.1
    have z2 := z.2.1
    refine ⟨h, f, ?_, by show bL h X N0 a ka ia 0 ic f g 5 (fl (A.reverse.reverse.map fun e => e.2)); rw [List.reverse_reverse]; exact hb, fun c y _ hy => hy, rfl, rfl⟩
    refine jr_1 jm_183 (show jw_cd cd_183 11 = some (.iload 4) by decide +kernel) rfl ?_
    refine jr_1 jm_183 (show jw_cd cd_183 13 = some (.aload_n 1) by decide +kernel) rfl ?_
    refine jr_1 jm_183 (show jw_cd cd_183 14 = some (.getfield 44) by decide +kernel) (js_getf (cl_old hl ⟨by omega, oR⟩) (jbg (by omega)) (show jw_fld 10 44 5 = some 5 by decide +kernel) rfl) ?_
    refine jr_1 jm_183 (show jw_cd cd_183 17 = some (.if_icmp .ge 38) by decide +kernel) (mb_t (q := .ge) (a := ((j : Nat) : Int)) (b := ((L.length : Nat) : Int)) (t := 55) (by show ((L.length : Nat) : Int) ≤ ((j : Nat) : Int); omega) ⟨by omega, by omega⟩ ⟨by omega, by omega⟩ (by decide) (by decide)) ?_
    refine jr_1 jm_183 (show jw_cd cd_183 55 = some (.aload_n 3) by decide +kernel) rfl ?_
    exact jr_v jm_183 (show jw_cd cd_183 56 = some (.areturn) by decide +kernel) rfl
  | .inner s0 i0 u0 c0 n, j, A, h, f, hdr, hj, hA, hw, hK, hk34, hE, hS, hl, hb32, hb, har, ht => by
    have hj : j + (fsz n + 1) = L.length := hj
    obtain ⟨l1, l2, l3, n1, n2, n3, n0⟩ := bL_b hb
    obtain ⟨z, r1, r2, rt, rka, ria, ric, rf, zi, oR, oI, hric, hel⟩ := id har
    have z1 := z.1
    have z2 := z.2.1
    have zi1 := zi.1
    have zi2 := zi.2.1
    have hdr : (i0, c0) :: sib n = L.drop j := hdr
    have hget : L[j]? = some (i0, c0) := by rw [← List.head?_drop, ← hdr]; rfl
    obtain ⟨it, hit, hitv⟩ := hel j (i0, c0) hget
    have hK : (decide (rkind s i0 c0 = kk) && allK s kk n) = true := hK
    rw [Bool.and_eq_true, decide_eq_true_eq] at hK
    have hrd := rkind_dv s i0 c0
    cases hvr : vrank s i0 c0 with
    | none =>
      rw [hvr] at hrd
      have hrd : rkind s i0 c0 = 0 := hrd
      omega
    | some r =>
      rw [hvr] at hrd
      have hrk : r.1.1 = kk := by rw [← hK.1]; exact hrd.symm
      have hrok : vok r := by
        have := vrnk_ok (s := s) (v := (i0, c0)) ⟨hw.1, hw.2.1⟩
        rw [show vrank s (i0, c0).1 (i0, c0).2 = some r from hvr] at this
        exact this
      obtain ⟨rk, c1, hcq⟩ := jc_rank (β := β) (d := d + 2) (κ := κ) (v := (i0, c0)) hl (Or.inr hitv) ⟨hw.1, hw.2.1⟩ ht hs
      rw [show vrank s (i0, c0).1 (i0, c0).2 = some r from hvr] at hcq
      have hrO : vO h κ (bX X a ka ia) rk r.1 r.2 := vR_O (κ := κ) hl (vQ_R hcq)
      obtain ⟨b1, b2, b3, b4, b5, b6, b7, b8⟩ := id hb
      have oA := b3
      rw [fl_sz, List.length_map] at oA
      obtain ⟨p, c2, p1, p2, p3⟩ := jc_place (β := β) (d := d) (κ := κ) hl ⟨by omega, by omega⟩ ⟨by omega, by omega⟩ oA b5 ⟨by omega, hic.2⟩ (bL_row hb) hE hS ht hs hrO hrok.1 hrk
      have lmp : (A.map fun e => e.2).length = A.length := List.length_map _
      obtain ⟨h1, f1, c3, q1, q2, q3, q4, q5⟩ := jc_insert (β := β) (d := d + 3) (κ := κ) (p := p) (v := (i0, c0)) hl (by omega) hb (by omega) hic.2 (by omega) hitv
      have em := insE_map p (r, (i0, c0)) A
      have q1 : bL h1 X N0 a ka ia 0 ic f1 g 5 (fl ((insE p (r, (i0, c0)) A).map fun e => e.2)) := by rw [em]; exact q1
      have eR := insR_E (p := p) (e := (r, (i0, c0))) (A := A) (fun x hx => by
        rw [abv_kz (hE x (List.mem_of_mem_take hx)).2.2.2, decide_eq_true_eq]
        show ¬ kzI _ r.1 < kzI _ x.1.1
        have := p2 x hx
        omega) (fun x hx => by
        rw [abv_kz (hE x (List.mem_of_mem_drop hx)).2.2.2, decide_eq_true_eq]
        exact p3 x hx)
      have eA' : (insE p (r, (i0, c0)) A).length = A.length + 1 := by
        unfold insE
        rw [List.length_append, List.length_cons, List.length_take, List.length_drop]
        omega
      obtain ⟨h2, f2, s1, s2, s3, s4, s5⟩ := jc_soL (β := β) (d := d) (κ := κ) hs hic n (j + 1) (insE p (r, (i0, c0)) A) h1 f1 (by rw [← List.tail_drop, ← hdr]; rfl) (by omega) (by omega) hw.2.2 hK.2 hk34 (fun e he => by
        rcases List.mem_append.mp he with z | z
        · exact hE e (List.mem_of_mem_take z)
        · rcases List.mem_cons.mp z with rfl | z
          · exact ⟨hvr, ⟨hw.1, hw.2.1⟩, hrok, hrk⟩
          · exact hE e (List.mem_of_mem_drop z)) (srtd_E hS p2 p3) (by omega) (by omega) q1 (rowR_fr q2 har) (strR_fr q2 ht)
      have ef : fsorted s (.inner s0 i0 u0 c0 n) A.reverse = fsorted s n (insE p (r, (i0, c0)) A).reverse := by
        show (match vrank s i0 c0 with | some r => fsorted s n (insR (r, (i0, c0)) A.reverse) | none => fsorted s n A.reverse) = _
        rw [hvr, ← eR]
      rw [ef]
      refine ⟨h2, f2, ?_, s2, fun c y hc hy => s3 c y hc (q3 c y hc hy), by omega, by omega⟩
      refine jr_1 jm_183 (show jw_cd cd_183 11 = some (.iload 4) by decide +kernel) rfl ?_
      refine jr_1 jm_183 (show jw_cd cd_183 13 = some (.aload_n 1) by decide +kernel) rfl ?_
      refine jr_1 jm_183 (show jw_cd cd_183 14 = some (.getfield 44) by decide +kernel) (js_getf (cl_old hl ⟨by omega, oR⟩) (jbg (by omega)) (show jw_fld 10 44 5 = some 5 by decide +kernel) rfl) ?_
      refine jr_1 jm_183 (show jw_cd cd_183 17 = some (.if_icmp .ge 38) by decide +kernel) (mb_f (q := .ge) (a := ((j : Nat) : Int)) (b := ((L.length : Nat) : Int)) (by show ¬ (((L.length : Nat) : Int) ≤ ((j : Nat) : Int)); omega) ⟨by omega, by omega⟩ ⟨by omega, by omega⟩ (by decide)) ?_
      refine jr_1 jm_183 (show jw_cd cd_183 20 = some (.aload_n 3) by decide +kernel) rfl ?_
      refine jr_1 jm_183 (show jw_cd cd_183 21 = some (.aload_n 0) by decide +kernel) rfl ?_
      refine jr_1 jm_183 (show jw_cd cd_183 22 = some (.aload_n 3) by decide +kernel) rfl ?_
      refine jr_1 jm_183 (show jw_cd cd_183 23 = some (.aload_n 0) by decide +kernel) rfl ?_
      refine jr_1 jm_183 (show jw_cd cd_183 24 = some (.aload_n 1) by decide +kernel) rfl ?_
      refine jr_1 jm_183 (show jw_cd cd_183 25 = some (.getfield 47) by decide +kernel) (js_getf (cl_old hl ⟨by omega, oR⟩) (jbg (by omega)) (show jw_fld 10 47 5 = some 4 by decide +kernel) rfl) ?_
      refine jr_1 jm_183 (show jw_cd cd_183 28 = some (.iload 4) by decide +kernel) rfl ?_
      refine jr_1 jm_183 (show jw_cd cd_183 30 = some (.aaload) by decide +kernel) (cal_a (e := .ref it) (jx_ar_h (cl_old hl ⟨by omega, oI⟩) (jbg (by omega))) (Or.inl rfl) (by omega) (by omega) (by omega) (by rw [Int.toNat_natCast]; exact hit)) ?_
      refine jr_1 jm_183 (show jw_cd cd_183 31 = some (.aload_n 2) by decide +kernel) rfl ?_
      refine jr_c jm_183 (show jw_cd cd_183 32 = some (.invokevirtual 51) by decide +kernel) (ccv (n := 2) (m2 := 178) (ci := 7) (a := 11) (bs := [.ref it, .ref t0]) (r := [.ref a, .ref 11, .ref a]) (js_cls cl_c11 (by decide)) (show jw_find jw_cvT 10 51 = some (2, [(7, 178)]) by decide +kernel) (by decide) rfl rfl rfl) jm_178 ⟨Nat.le_of_ble_eq_true rfl, by decide⟩ c1 ?_
      refine jr_1 jm_183 (show jw_cd cd_183 35 = some (.aload_n 2) by decide +kernel) rfl ?_
      refine jr_c jm_183 (show jw_cd cd_183 36 = some (.invokevirtual 127) by decide +kernel) (ccv (n := 3) (m2 := 184) (ci := 7) (a := 11) (bs := [.ref a, .ref rk, .ref t0]) (r := [.ref a]) (js_cls cl_c11 (by decide)) (show jw_find jw_cvT 10 127 = some (3, [(7, 184)]) by decide +kernel) (by decide) rfl rfl rfl) jm_184 ⟨Nat.le_of_ble_eq_true rfl, by decide⟩ c2 ?_
      refine jr_1 jm_183 (show jw_cd cd_183 39 = some (.aload_n 1) by decide +kernel) rfl ?_
      refine jr_1 jm_183 (show jw_cd cd_183 40 = some (.getfield 47) by decide +kernel) (js_getf (cl_old hl ⟨by omega, oR⟩) (jbg (by omega)) (show jw_fld 10 47 5 = some 4 by decide +kernel) rfl) ?_
      refine jr_1 jm_183 (show jw_cd cd_183 43 = some (.iload 4) by decide +kernel) rfl ?_
      refine jr_1 jm_183 (show jw_cd cd_183 45 = some (.aaload) by decide +kernel) (cal_a (e := .ref it) (jx_ar_h (cl_old hl ⟨by omega, oI⟩) (jbg (by omega))) (Or.inl rfl) (by omega) (by omega) (by omega) (by rw [Int.toNat_natCast]; exact hit)) ?_
      refine jr_c jm_183 (show jw_cd cd_183 46 = some (.invokevirtual 131) by decide +kernel) (ccv (n := 2) (m2 := 191) (ci := 5) (a := a) (bs := [.int (Int32.ofInt (((p : Nat) : Int))), .ref it]) (r := []) (js_cls (cl_old hl ⟨by omega, hb.2.2.1⟩) (jbg (by omega))) (show jw_find jw_cvT 10 131 = some (2, [(5, 191)]) by decide +kernel) (by decide) rfl rfl rfl) jm_191 ⟨Nat.le_of_ble_eq_true rfl, by decide⟩ c3 ?_
      refine jr_1 jm_183 (F2 := (52, [some (.ref 11), some (.ref rw), some (.ref t0), some (.ref a), some (.int (Int32.ofInt (((j : Nat) : Int) + 1)))], [], (cl_mk h1 κ))) (show jw_cd cd_183 49 = some (.iinc 4 1) by decide +kernel) (mt_inc (a := ((j : Nat) : Int)) (c := ((j : Nat) : Int) + 1) rfl (by omega) rfl) ?_
      refine jr_1 jm_183 (show jw_cd cd_183 52 = some (.goto (-41)) by decide +kernel) (ju_go (t := 11) (by decide)) ?_
      exact s1
theorem jc_sorted {β : Bool} {d : Nat} {h : jx_H} {κ : mS} (hl : 50 ≤ h.length) {N : Nat} (hN : h.length = N) (hb32 : N < 2800000000) {X : Nat → Prop} (hx : ∀ c, N ≤ c → ¬ X c) {rw t0 : Nat} {F : FT} {s : List Int} (hL : fsz F ≤ 1000) (hw : fwf F) (hK : ¬ fsort s 0 F = -1) (hs : tx s) (har : rowR h X rw (sib F)) (ht : strR h X t0 s) : ∃ h' : jx_H, jx_r (jz β) jw_M (d + 6) 183 (0, [some (.ref 11), some (.ref rw), some (.ref t0), none, none], [], (cl_mk h κ)) (cl_mk h' (κ), .inl (some (.ref (N)))) ∧ vN h' X N (5, 0, [], []) (fl (srt s F)) ∧ (∀ (c : Nat) (y : jx_C), h[c]? = some y → h'[c]? = some y) ∧ h'.length = N + 3 ∧ cvol h' = cvol h + (6 + fsz F) := by
  obtain ⟨L, eL⟩ : ∃ L, L = sib F := ⟨_, rfl⟩
  have hLl : L.length = fsz F := by rw [eL, sib_sz]
  rw [← eL] at har
  obtain ⟨h1, e1, hb1, n1, v1, q1, fr1⟩ := mkL (n := L.length) hl hN hx (by omega)
  have c1 := jc_mkL (β := β) (d := d + 4) (κ := κ) hl hN hb32 (by omega) e1
  obtain ⟨z, r1, r2, rt, rka, ria, ric, rf, zi, oR, oI, hric, hel⟩ := id har
  have z1 := z.1
  have z2 := z.2.1
  have hkk : ∃ kk : Int, (kk = 3 ∨ kk = 4) ∧ allK s kk F = true := by
    rcases (fsort_0 (s := s) F).mp hK with z | z
    · exact ⟨3, Or.inl rfl, z⟩
    · exact ⟨4, Or.inr rfl, z⟩
  obtain ⟨kk, hk34, hall⟩ := hkk
  obtain ⟨h2, f2, p1, p2, p3, p4, p5⟩ := jc_soL (β := β) (d := d) (κ := κ) (kk := kk) hs ⟨Nat.le_refl _, by omega⟩ F 0 [] h1 _ (by rw [eL]; rfl) (by omega) rfl hw hall hk34 (fun e he => (by cases he)) List.Pairwise.nil (by omega) (by omega) hb1 (rowR_fr fr1 har) (strR_fr fr1 ht)
  refine ⟨h2, ?_, bL_done (by omega) p2, fun c y hy => p3 c y (by have := (List.getElem?_eq_some_iff.mp hy).1; omega) (q1 c y hy), by omega, by omega⟩
  refine jr_1 jm_183 (show jw_cd cd_183 0 = some (.aload_n 1) by decide +kernel) rfl ?_
  refine jr_1 jm_183 (show jw_cd cd_183 1 = some (.getfield 44) by decide +kernel) (js_getf (cl_old hl ⟨by omega, oR⟩) (jbg (by omega)) (show jw_fld 10 44 5 = some 5 by decide +kernel) rfl) ?_
  refine jr_c jm_183 (show jw_cd cd_183 4 = some (.invokestatic 120) by decide +kernel) (mc_s (n := 1) (m2 := 93) (bs := [.int (Int32.ofInt (((L.length : Nat) : Int)))]) (r := []) (by decide) (show jw_find jw_csT 10 120 = some (93, 1) by decide +kernel) rfl rfl rfl) jm_93 ⟨Nat.le_of_ble_eq_true rfl, by decide⟩ c1 ?_
  refine jr_1 jm_183 (F2 := (8, [some (.ref 11), some (.ref rw), some (.ref t0), some (.ref N), none], [], (cl_mk h1 κ))) (show jw_cd cd_183 7 = some (.astore_n 3) by decide +kernel) rfl ?_
  refine jr_1 jm_183 (show jw_cd cd_183 8 = some (.iconst 0) by decide +kernel) rfl ?_
  refine jr_1 jm_183 (F2 := (11, [some (.ref 11), some (.ref rw), some (.ref t0), some (.ref N), some (.int (Int32.ofInt (0)))], [], (cl_mk h1 κ))) (show jw_cd cd_183 9 = some (.istore 4) by decide +kernel) rfl ?_
  exact p1

/-! ===== the upper frames: the law's and its helpers' ===== -/
abbrev jx_Su : Type := Nat → List Value → jx_H → jx_R → Prop
def jx_xcall (xs : Nat → Option (Nat × Nat)) (i : Instr) (st : List Value) : Option (Nat × List Value × List Value) := match i with
  | .invokestatic k => match xs k with
    | some (m2, n) => match jx_args n st with
      | some (as, r) => if (r.map fun v => v.category).sum ≤ 8 then some (m2, as, r) else none
      | none => none
    | none => none
  | _ => none
/-- a step of an upper frame: its callees by a relation -/
def jx_u1 (T : jx_T) (E : jx_M) (xs : Nat → Option (Nat × Nat)) (Su : jx_Su) (Post : jx_H → Option Value → Prop) (ih : jx_F → Prop) (F : jx_F) : Prop := match E.2.2.2.1 F.1 with
  | none => False
  | some i => match jx_xcall xs i F.2.2.1 with
    | some (m2, as, r) => ∃ (h2 : jx_H) (v : Option Value), Su m2 as F.2.2.2 (h2, .inl v) ∧ ih (F.1 + 3, F.2.1, v.toList ++ r, h2)
    | none => match jx_do T E.2.2.2.1 E.1 F.1 E.2.2.1 i F.2.1 F.2.2.1 F.2.2.2 with
      | none => False
      | some (.inl F2) => ih F2
      | some (.inr (.inl (m2, as, r))) => (∃ (h2 : jx_H) (v : Option Value), Su m2 as F.2.2.2 (h2, .inl v) ∧ ih (F.1 + 3, F.2.1, v.toList ++ r, h2)) ∨
        ∃ (h2 : jx_H) (a ci pc2 : Nat), Su m2 as F.2.2.2 (h2, .inr a) ∧ jx_cls T h2 a = some ci ∧ E.2.2.2.2 F.1 ci = some pc2 ∧ ih (pc2, F.2.1, [.ref a], h2)
      | some (.inr (.inr (.inl v))) => Post F.2.2.2 v
      | some (.inr (.inr (.inr _))) => False
noncomputable def jx_u (T : jx_T) (E : jx_M) (xs : Nat → Option (Nat × Nat)) (Su : jx_Su) (Post : jx_H → Option Value → Prop) (f : Nat) : jx_F → Prop := Nat.rec (fun _ => False) (fun _ ih => jx_u1 T E xs Su Post ih) f
theorem jx_u_succ (T : jx_T) (E : jx_M) (xs : Nat → Option (Nat × Nat)) (Su : jx_Su) (Post : jx_H → Option Value → Prop) (f : Nat) (F : jx_F) : jx_u T E xs Su Post (f + 1) F = jx_u1 T E xs Su Post (jx_u T E xs Su Post f) F := rfl
def jx_sg (T : jx_T) (Su : jx_Su) : Prop := ∀ (mc : Nat) (as : List Value) (h : jx_H) (r : jx_R), Su mc as h r → h.length ≤ r.1.length ∧ jx_vol T h ≤ jx_vol T r.1
theorem jx_u_end {T : jx_T} {E : jx_M} {xs : Nat → Option (Nat × Nat)} {Su : jx_Su} {Post : jx_H → Option Value → Prop} (hg : jx_sg T Su) : ∀ (f : Nat) (F : jx_F), jx_u T E xs Su Post f F → ∃ (hf : jx_H) (v : Option Value), Post hf v ∧ F.2.2.2.length ≤ hf.length ∧ jx_vol T F.2.2.2 ≤ jx_vol T hf := by
  intro f
  induction f with
  | zero => intro F h; cases h
  | succ f ih =>
    intro F h
    rw [jx_u_succ] at h
    unfold jx_u1 at h
    split at h
    · cases h
    · split at h
      · obtain ⟨h2, v, h3, h4⟩ := h
        obtain ⟨hf, v2, q1, q2, q3⟩ := ih _ h4
        have g1 := hg _ _ _ _ h3
        exact ⟨hf, v2, q1, Nat.le_trans g1.1 q2, Nat.le_trans g1.2 q3⟩
      · split at h
        · cases h
        · rename_i F2 hdo
          obtain ⟨hf, v2, q1, q2, q3⟩ := ih _ h
          have g1 := jx_do_grow hdo
          exact ⟨hf, v2, q1, Nat.le_trans g1.1 q2, Nat.le_trans g1.2 q3⟩
        · rcases h with ⟨h2, v, h3, h4⟩ | ⟨h2, a, ci, pc2, h3, -, -, h4⟩
          · obtain ⟨hf, v2, q1, q2, q3⟩ := ih _ h4
            have g1 := hg _ _ _ _ h3
            exact ⟨hf, v2, q1, Nat.le_trans g1.1 q2, Nat.le_trans g1.2 q3⟩
          · obtain ⟨hf, v2, q1, q2, q3⟩ := ih _ h4
            have g1 := hg _ _ _ _ h3
            exact ⟨hf, v2, q1, Nat.le_trans g1.1 q2, Nat.le_trans g1.2 q3⟩
        · exact ⟨_, _, h, Nat.le_refl _, Nat.le_refl _⟩
        · cases h
section JXU
variable {T : jx_T} {cl : List vw_C} {ow : Nat → String} {G : jx_G} {H0 : Heap}
variable {p : Program} {l : Launch} {e : Env} {R : Room} {s : State} {m : MethodId} {args : Array Value} {below : List Frame} {meth : Method} {c : Code} {Q : State → Prop}
set_option maxHeartbeats 2000000 in
theorem jx_soundU {own nL : Nat} {rt : Option FieldType × Bool} {cd : Nat → Option Instr} {hd : Nat → Nat → Option Nat} {xs : Nat → Option (Nat × Nat)} {Su : jx_Su} {Post : jx_H → Option Value → Prop} {bytes : ByteArray} {n0 v0 : Nat} (hg : jx_sg T Su)
    (hexec : p.tables.exec = Jvm.exec) (hb : c.code = bytes) (hml : c.maxLocals = nL) (hown : s.vm.findClass (ow own) = some m.cls) (hok : jx_ok T cl ow G H0 s) (hini : rt.2 = true → meth.name = "<init>") (hR : 1 ≤ R.frames ∧ 30 ≤ R.locals)
    (hcd : ∀ (pc : Nat) (i : Instr), cd pc = some i → ∃ len, decode bytes pc = .ok (i, len) ∧ (jx_isSwitch i = false → len = jx_len i))
    (hPost : ∀ (hf : jx_H) (v : Option Value), Post hf v → hf.length - n0 ≤ R.cells ∧ jx_vol T hf - v0 ≤ R.slots)
    (hret : ∀ (hf : jx_H) (v : Option Value) (H1 : Heap) (ls1 : Array Slot) (locs1 : List Loc) (pc1 : Nat) (st1 : List Value) (i1 : Instr), Post hf v → jx_rep G cl H0 hf H1 → (∀ z ∈ locs1, jx_fre T G z.base) → decode bytes pc1 = .ok (i1, 1) → jx_rets rt.1 i1 st1 v →
      W p l e R s m args below meth c H1 locs1 (hf.length - n0) (jx_vol T hf - v0) Q (F0 m pc1 ls1 (st1.map (jx_v G))))
    (hC : ∀ (pc : Nat) (i : Instr) (lo : jx_L) (st : List Value) (h : jx_H) (mc : Nat) (as r : List Value) (h2 : jx_H) (v2 : Option Value) (H : Heap) (locs : List Loc) (ls : Array Slot), cd pc = some i → (jx_xcall xs i st = some (mc, as, r) ∨ jx_do T cd own pc rt i lo st h = some (.inr (.inl (mc, as, r)))) → Su mc as h (h2, .inl v2) → jx_rep G cl H0 h H → jx_ls G nL ls lo → (∀ z ∈ locs, jx_fre T G z.base) → n0 ≤ h.length → v0 ≤ jx_vol T h → h2.length - n0 ≤ R.cells → jx_vol T h2 - v0 ≤ R.slots →
      (∀ (H1 : Heap) (locs1 : List Loc), jx_rep G cl H0 h2 H1 → (∀ z ∈ locs1, jx_fre T G z.base) → W p l e R s m args below meth c H1 locs1 (h2.length - n0) (jx_vol T h2 - v0) Q (F0 m (pc + 3) ls ((v2.toList ++ r).map (jx_v G)))) →
      W p l e R s m args below meth c H locs (h.length - n0) (jx_vol T h - v0) Q (F0 m pc ls (st.map (jx_v G))))
    (hX : ∀ (pc : Nat) (i : Instr) (lo : jx_L) (st : List Value) (h : jx_H) (mc : Nat) (as r : List Value) (h2 : jx_H) (a ci pc2 : Nat) (H : Heap) (locs : List Loc) (ls : Array Slot), cd pc = some i → jx_do T cd own pc rt i lo st h = some (.inr (.inl (mc, as, r))) → Su mc as h (h2, .inr a) → jx_cls T h2 a = some ci → hd pc ci = some pc2 → jx_rep G cl H0 h H → jx_ls G nL ls lo → (∀ z ∈ locs, jx_fre T G z.base) → n0 ≤ h.length → v0 ≤ jx_vol T h → h2.length - n0 ≤ R.cells → jx_vol T h2 - v0 ≤ R.slots →
      (∀ (H1 : Heap) (locs1 : List Loc), jx_rep G cl H0 h2 H1 → (∀ z ∈ locs1, jx_fre T G z.base) → W p l e R s m args below meth c H1 locs1 (h2.length - n0) (jx_vol T h2 - v0) Q (F0 m pc2 ls ([Value.ref a].map (jx_v G)))) →
      W p l e R s m args below meth c H locs (h.length - n0) (jx_vol T h - v0) Q (F0 m pc ls (st.map (jx_v G)))) :
    ∀ (f pc : Nat) (lo : jx_L) (st : List Value) (h : jx_H) (H : Heap) (locs : List Loc) (ls : Array Slot), jx_u T (own, nL, rt, cd, hd) xs Su Post f (pc, lo, st, h) → jx_rep G cl H0 h H → jx_ls G nL ls lo → (∀ z ∈ locs, jx_fre T G z.base) → n0 ≤ h.length → v0 ≤ jx_vol T h →
      W p l e R s m args below meth c H locs (h.length - n0) (jx_vol T h - v0) Q (F0 m pc ls (st.map (jx_v G))) := by
  intro f
  induction f with
  | zero => intro pc lo st h H locs ls hx; cases hx
  | succ f ih =>
    intro pc lo st h H locs ls hx hrep hl hlf hn0 hv0
    rw [jx_u_succ] at hx
    unfold jx_u1 at hx
    dsimp only at hx
    split at hx
    · cases hx
    · rename_i i hi
      split at hx
      · rename_i mc as r hxc
        obtain ⟨h2, v2, h3, h4⟩ := hx
        obtain ⟨hf, v, q1, q2, q3⟩ := jx_u_end hg _ _ h4
        have g1 := hg _ _ _ _ h3
        have g2 := hPost _ _ q1
        dsimp only at q2 q3 g1
        exact hC pc i lo st h mc as r h2 v2 H locs ls hi (Or.inl hxc) h3 hrep hl hlf hn0 hv0 (by omega) (by omega) (fun H1 locs1 hr1 hf1 => ih _ _ _ _ H1 locs1 ls h4 hr1 hl hf1 (by omega) (by omega))
      · split at hx
        · cases hx
        · rename_i F2 hdo
          obtain ⟨pc2, lo2, st2, h2⟩ := F2
          obtain ⟨hf, v, q1, q2, q3⟩ := jx_u_end hg _ _ hx
          have g1 := jx_do_grow hdo
          have g2 := hPost _ _ q1
          dsimp only at q2 q3 g1
          refine jx_s_all (T := T) (cd := cd) (rt := rt) (n0 := n0) (v0 := v0) hexec hb hown hok hml hini hR (hcd _ _ hi) hl hrep hlf hn0 hv0 hdo ⟨by dsimp only; omega, by dsimp only; omega⟩ (fun H1 ls1 locs1 hr1 hl1 hf1 => ?_)
          exact ih pc2 lo2 st2 h2 H1 locs1 ls1 hx hr1 hl1 hf1 (by omega) (by omega)
        · rename_i mc as r hdo
          rcases hx with ⟨h2, v2, h3, h4⟩ | ⟨h2, a, ci, pc2, h3, h5, h6, h4⟩
          · obtain ⟨hf, v, q1, q2, q3⟩ := jx_u_end hg _ _ h4
            have g1 := hg _ _ _ _ h3
            have g2 := hPost _ _ q1
            dsimp only at q2 q3 g1
            exact hC pc i lo st h mc as r h2 v2 H locs ls hi (Or.inr hdo) h3 hrep hl hlf hn0 hv0 (by omega) (by omega) (fun H1 locs1 hr1 hf1 => ih _ _ _ _ H1 locs1 ls h4 hr1 hl hf1 (by omega) (by omega))
          · obtain ⟨hf, v, q1, q2, q3⟩ := jx_u_end hg _ _ h4
            have g1 := hg _ _ _ _ h3
            have g2 := hPost _ _ q1
            dsimp only at q2 q3 g1
            exact hX pc i lo st h mc as r h2 a ci pc2 H locs ls hi hdo h3 h5 h6 hrep hl hlf hn0 hv0 (by omega) (by omega) (fun H1 locs1 hr1 hf1 => ih _ _ _ _ H1 locs1 ls h4 hr1 hl hf1 (by omega) (by omega))
        · rename_i v hdo
          have hrs := jx_do_ret hdo
          obtain ⟨len, hd0, hln⟩ := hcd _ _ hi
          have hl1 : len = 1 := by
            rcases hrs with ⟨rfl, _⟩ | ⟨rfl, _⟩ | ⟨rfl, _⟩ | ⟨rfl, _⟩ <;> exact hln rfl
          subst hl1
          exact hret h v H ls locs pc st i hx hrep hlf hd0 hrs
        · cases hx
end JXU

/-! A CALLEE'S THROW goes on at this method's handler. -/
/-- none: not told; some none: not caught here; some (some h): caught, it goes on at h -/
def gm_hit (o pc x : Nat) : Bool → List (Nat × Nat × Nat × Nat) → Option (Option Nat)
  | fl, [] => if fl = true then none else some none
  | fl, q :: r => if q.1 ≤ pc ∧ pc < q.2.1 then (if q.2.2.2 = 0 then none else match gm_ctc o q.2.2.2 with
    | some y => if y = x then some (some q.2.2.1) else gm_hit o pc x true r
    | none => none) else gm_hit o pc x fl r
theorem gm_hit_some {o pc x h : Nat} : ∀ {rows : List (Nat × Nat × Nat × Nat)} {fl : Bool}, gm_hit o pc x fl rows = some (some h) → ∃ pre q suf, rows = pre ++ q :: suf ∧ q.2.2.1 = h ∧ (q.1 ≤ pc ∧ pc < q.2.1) ∧ ¬ q.2.2.2 = 0 ∧ gm_ctc o q.2.2.2 = some x ∧ ∀ z ∈ pre, ¬ (z.1 ≤ pc ∧ pc < z.2.1) ∨ (¬ z.2.2.2 = 0 ∧ ∃ y, gm_ctc o z.2.2.2 = some y ∧ ¬ y = x) := by
  intro rows
  induction rows with
  | nil => intro fl h; unfold gm_hit at h; split at h <;> cases h
  | cons q r ih =>
    intro fl h1
    unfold gm_hit at h1
    split at h1
    · rename_i e1
      split at h1
      · cases h1
      · rename_i e2
        cases hc : gm_ctc o q.2.2.2 with
        | none => rw [hc] at h1; cases h1
        | some y =>
          rw [hc] at h1
          dsimp only at h1
          split at h1
          · rename_i e3
            cases h1
            subst e3
            exact ⟨[], q, r, rfl, rfl, e1, e2, hc, fun z hz => nomatch hz⟩
          · rename_i e3
            obtain ⟨pre, q', suf, a1, a2, a3, a4, a5, a6⟩ := ih h1
            refine ⟨q :: pre, q', suf, by rw [a1]; rfl, a2, a3, a4, a5, fun z hz => ?_⟩
            rcases List.mem_cons.mp hz with rfl | hz
            · exact .inr ⟨e2, y, hc, e3⟩
            · exact a6 z hz
    · rename_i e1
      obtain ⟨pre, q', suf, a1, a2, a3, a4, a5, a6⟩ := ih h1
      refine ⟨q :: pre, q', suf, by rw [a1]; rfl, a2, a3, a4, a5, fun z hz => ?_⟩
      rcases List.mem_cons.mp hz with rfl | hz
      · exact .inl e1
      · exact a6 z hz
theorem gm_hit_none {o pc x : Nat} : ∀ {rows : List (Nat × Nat × Nat × Nat)} {fl : Bool}, gm_hit o pc x fl rows = some none → ∀ z ∈ rows, ¬ (z.1 ≤ pc ∧ pc < z.2.1) ∨ fl = true := by
  intro rows
  induction rows with
  | nil => intro fl _ z hz; cases hz
  | cons q r ih =>
    intro fl h1 z hz
    unfold gm_hit at h1
    split at h1
    · split at h1
      · cases h1
      · cases hc : gm_ctc o q.2.2.2 with
        | none => rw [hc] at h1; cases h1
        | some y =>
          rw [hc] at h1
          dsimp only at h1
          split at h1
          · cases h1
          · exfalso
            clear ih hz
            induction r with
            | nil => unfold gm_hit at h1; cases h1
            | cons q2 r2 ih2 =>
              unfold gm_hit at h1
              split at h1
              · split at h1
                · cases h1
                · cases hc2 : gm_ctc o q2.2.2.2 with
                  | none => rw [hc2] at h1; cases h1
                  | some y2 =>
                    rw [hc2] at h1
                    dsimp only at h1
                    split at h1
                    · cases h1
                    · exact ih2 h1
              · exact ih2 h1
    · rename_i e1
      rcases List.mem_cons.mp hz with rfl | hz
      · exact .inl e1
      · exact ih h1 z hz
section GH
variable {X : Int → Int} {LX d bc bs mi pc : Nat} {L : gm_L} {st : List gm_V} {n : Nat} {K : gm_K} {R : gm_R} {M : gm_M} {Q : gm_Q}
theorem gm_cov0 {q : Nat × Nat × Nat × Nat} {pc : Nat} (h : ¬ (q.1 ≤ pc ∧ pc < q.2.1)) : covers ⟨q.1, q.2.1, q.2.2.1, q.2.2.2⟩ pc = false := by
  simp only [covers]
  simpa using h
theorem gm_cov1 {q : Nat × Nat × Nat × Nat} {pc : Nat} (h : q.1 ≤ pc ∧ pc < q.2.1) : covers ⟨q.1, q.2.1, q.2.2.1, q.2.2.2⟩ pc = true := by
  simp only [covers]
  simpa using h
/-- what a callee owes a caller with handlers -/
def gm_contH (X : Int → Int) (LX d bc bs mi pc pc' : Nat) (L : gm_L) (st : List gm_V) (Q : gm_Q) : gm_Q := fun o n K R M => match o with
  | .inl u => gm_Wp X LX d bc bs mi pc' L (u.toList ++ st) n K R M Q
  | .inr x => match gm_hit (gm_ow mi) pc x false (gm_hh mi) with
    | some (some h) => gm_Wp X LX d bc bs mi h L [gm_vo 4000] n K R M Q
    | some none => Q (.inr x) n K R M
    | none => False
theorem gm_tailH {p : Program} {l : Launch} {e : Env} {Rm : Room} {s : State} {m : MethodId} {args : Array Value} {below : List Frame} {meth : Method} {c : Code} {H : Heap} {locs : List Loc} {cells slots bc' bs' mc ms n0 : Nat} {D : va_G} {ti : Nat → ClassId} {adK adV α α0 : Nat → Nat} {A A1 : Nat → Prop} {a : Array Value} {ls : Array Slot} {sv0 sv : List Value}
    (hcx : gm_Cx mi p l s m args meth c) (hev : gm_Ev X LX adK adV A s) (hd : d ≤ Rm.frames) (hd2 : d * 300 ≤ Rm.locals) (hmc : mc ≤ Rm.cells) (hms : ms ≤ Rm.slots) (hA : ∀ q, s.heap.size ≤ q → A q) (hxt : gm_xt α0 n0 α n) (hb1 : bc' ≤ bc) (hb2 : bs' ≤ bs) (hc1 : cells + bc ≤ mc) (hc2 : slots + bs ≤ ms) (hSv : va_S A s.heap H locs) (hL : gm_lr α adK n (gm_ml mi) L ls) (hS : gm_sr α adK n st sv) (hA1 : ∀ q, A1 q → A q)
    (hr : vx_Run p l e Rm s m args below meth c H locs cells slots bc' bs' (F0 m pc ls sv0) sv (gm_QC D ti adK A1 α n (gm_contH X LX d (bc - bc') (bs - bs') mi pc (pc + 3) L st Q) a) (gm_XC D ti A1 α n (gm_contH X LX d (bc - bc') (bs - bs') mi pc (pc + 3) L st Q)) A1) :
    W p l e Rm s m args below meth c H locs cells slots (vx_MQ below (gm_QC D ti adK A α0 n0 Q) (gm_XC D ti A α0 n0 Q) args s mc ms A) (F0 m pc ls sv0) := by
  refine gm_after hr hSv hA1 (fun v u α' n' K' R' M' H1 locs1 ho hq hx9 hk hp hdd hrv hs9 => ?_) (fun x ce q9 α' n' K' R' M' H1 locs1 hx5 hq hx9 hk hp hdd hrv hs9 hce hcv hcl => ?_)
  · refine hq p l e Rm s m args below meth c D ti adK adV A α0 n0 mc ms hcx hev hd hd2 hmc hms hA α' H1 locs1 (cells + bc') (slots + bs') ls (v.toList ++ sv) (hxt.trans hx9) (by omega) (by omega) ⟨hk, hp, hdd, hs9, hrv⟩ (gm_lr_ext hx9 hL) ?_
    cases u with
    | none => cases ho; exact gm_sr_ext hx9 hS
    | some u => obtain ⟨w, rfl, hw⟩ := ho; exact ⟨w, sv, rfl, hw, gm_sr_ext hx9 hS⟩
  · have htab : c.exceptionTable.toList = tableOf (gm_hh mi) := hcx.2.2.2.2.2.2.2.2.2.2
    have hq2 : (match gm_hit (gm_ow mi) pc x false (gm_hh mi) with
      | some (some h) => gm_Wp X LX d (bc - bc') (bs - bs') mi h L [gm_vo 4000] n' K' R' M' Q
      | some none => Q (.inr x) n' K' R' M'
      | none => False) := hq
    cases hhit : gm_hit (gm_ow mi) pc x false (gm_hh mi) with
    | none => rw [hhit] at hq2; exact hq2.elim
    | some o =>
      rw [hhit] at hq2
      cases o with
      | none =>
        dsimp only at hq2
        refine vx_out (ce := ce) (E := gm_xn x) (fun z hz => ?_) hcx.2.2.2.2.2.1 hce hcv hcl (fun t ht hvm => ⟨⟨x, α', n', K', R', M', rfl, hx5, hq2, hxt.trans hx9, va_K.moved hvm hk, by rw [ht]; exact hp, hdd, hrv⟩, hs9.F ht⟩) hs9.2.2 (by omega) (by omega)
        rw [htab] at hz
        obtain ⟨q, hq1, rfl⟩ := List.mem_map.mp hz
        rcases gm_hit_none hhit q hq1 with h9 | h9
        · exact gm_cov0 h9
        · cases h9
      | some h =>
        dsimp only at hq2
        obtain ⟨pre, q, suf, b1, b2, b3, b4, b5, b6⟩ := gm_hit_some hhit
        have hsplit : c.exceptionTable.toList = tableOf pre ++ ⟨q.1, q.2.1, q.2.2.1, q.2.2.2⟩ :: tableOf suf := by
          rw [htab, b1]
          simp [tableOf]
        obtain ⟨-, -, -, hown, -, -, hts, -⟩ := _root_.id hcx
        have hcs : ∀ (x y : Nat), x < 5 → y < 5 → if x = y then va_Nw (.castable (gm_xn x) (gm_xn y)) s else va_Nc (gm_xn x) (gm_xn y) s := hev.2.2.2.2.2.2.2.2.2.2.2.1
        have hlk : ∀ (t y : Nat), gm_ctc (gm_ow mi) t = some y → y < 5 ∧ (Jvm.Cond.classLink (gm_rn (gm_ow mi)) t (gm_xn y)).before args s = true := by
          intro t y hty
          unfold gm_ctc at hty
          cases hz : gm_ctl.lookup (gm_ow mi, t) with
          | none => rw [hz] at hty; cases hty
          | some z =>
            rw [hz] at hty
            have hz2 := List.all_eq_true.mp gm_ctl_ok _ (gm_lookup2 _ _ _ hz)
            simp only [Bool.and_eq_true, decide_eq_true_eq] at hz2
            have e9 : z.1 = y := by simpa using hty
            rw [e9] at hz2
            exact ⟨hz2.1, hts _ (gm_T_in hz2.2 rfl)⟩
        have hxx := hcs x x hx5 hx5
        rw [if_pos rfl] at hxx
        refine vx_catch (ce := ce) (E := gm_xn x) (name := gm_xn x) (own := gm_rn (gm_ow mi)) hown (tableOf pre) ⟨q.1, q.2.1, q.2.2.1, q.2.2.2⟩ (tableOf suf) hsplit (fun z hz => ?_) (gm_cov1 b3) b4 (hlk _ _ b5).2 (va_Nw.use rfl hxx) hce hcv hcl ?_
        · obtain ⟨q3, hq3, rfl⟩ := List.mem_map.mp hz
          rcases b6 q3 hq3 with h9 | ⟨h9, y, h10, h11⟩
          · exact .inl (gm_cov0 h9)
          · obtain ⟨h12, h13⟩ := hlk _ _ h10
            have h14 := hcs x y hx5 h12
            rw [if_neg (fun e => h11 e.symm)] at h14
            exact .inr ⟨h9, gm_xn y, h13, h14⟩
        · show W p l e Rm s m args below meth c H1 locs1 _ _ _ (F0 m q.2.2.1 ls [.ref q9])
          rw [b2]
          exact hq2 p l e Rm s m args below meth c D ti adK adV A α0 n0 mc ms hcx hev hd hd2 hmc hms hA α' H1 locs1 (cells + bc') (slots + bs') ls [.ref q9] (hxt.trans hx9) (by omega) (by omega) ⟨hk, hp, hdd, hs9, hrv⟩ (gm_lr_ext hx9 hL) ⟨_, _, rfl, ⟨q9, rfl, fun h => by omega⟩, rfl⟩
end GH

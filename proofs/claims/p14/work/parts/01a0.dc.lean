/-! INSTRUCTIONS' lengths, and what a table's row says (laid by wip/am/gen_tables.py). -/
def gm_len : Instr → Nat
  | .bipush _ | .ldc _ | .iload _ | .istore _ | .aload _ | .astore _ | .lload _ | .lstore _ | .newarray _ => 2
  | .sipush _ | .ldc_w _ | .ldc2_w _ | .iinc _ _ | .ifCond _ _ | .if_icmp _ _ | .if_acmp _ _ | .goto _ | .ifnull _ | .ifnonnull _ | .getfield _ | .putfield _ | .getstatic _ | .invokevirtual _ | .invokespecial _ | .invokestatic _ | .new _ | .anewarray _ | .checkcast _ => 3
  | _ => 1
def gm_sw : Instr → Bool
  | .tableswitch .. => true
  | .lookupswitch .. => true
  | _ => false
def gm_ck1 (b : ByteArray) (q : Nat × Instr) : Bool := match decode b q.1 with | .ok x => decide (x.1 = q.2) && (gm_sw q.2 || decide (x.2 = gm_len q.2)) | .error _ => false
def gm_ckm (b : ByteArray) (l : List (List (Nat × Instr))) : Bool := l.all fun r => r.all (gm_ck1 b)
/-! THE DECODER, by shapes: what an instruction's bytes are (laid by wip/rel/dec.py). -/
section DEC
variable {b : ByteArray} {pc n : Nat} {r : List UInt8} {i : Instr}
theorem gm_rd1 {x : UInt8} (h : b.data.toList.drop pc = x :: r) : (Reader.u1 : Decoder Nat) b pc = .ok (x.toNat, pc + 1) ∧ b.data.toList.drop (pc + 1) = r := by
  have h2 : b.data.toList[pc]? = some x := by rw [← List.head?_drop, h]; rfl
  have hs : pc < b.size := (List.getElem?_eq_some_iff.mp h2).1
  have hx : b[pc] = x := (List.getElem?_eq_some_iff.mp h2).2
  refine ⟨?_, ?_⟩
  · show (dite (pc < b.size) (fun h => (do set (pc + 1); pure (b[pc]'h).toNat : Decoder Nat)) (fun _ => throw (HasTruncated.truncated pc))) b pc = _
    rw [dif_pos hs]
    show Except.ok ((b[pc]'hs).toNat, pc + 1) = _
    rw [hx]
  · rw [← List.drop_drop, h]; rfl
theorem gm_bnd {α β : Type} {m : Decoder α} {f : α → Decoder β} {p p' : Nat} {v : α} {z : Except DecodeError (β × Nat)} (h1 : m b p = .ok (v, p')) (h2 : f v b p' = z) : (m >>= f) b p = z := by
  show Except.bind (m b p) (fun q => f q.1 b q.2) = z
  rw [h1]
  exact h2
theorem gm_mpd {α β : Type} {m : Decoder α} {f : α → β} {p p' : Nat} {v : α} (h1 : m b p = .ok (v, p')) : (f <$> m : Decoder β) b p = .ok (f v, p') := by
  show Except.bind (m b p) (fun q => .ok (f q.1, q.2)) = _
  rw [h1]
  rfl
theorem gm_dcd (h : Decoder.instr pc b pc = .ok (i, pc + n)) : decode b pc = .ok (i, n) := by
  show Except.bind (Decoder.instr pc b pc) (fun q => .ok (q.1, q.2 - pc)) = _
  rw [h]
  show Except.ok (i, pc + n - pc) = _
  rw [Nat.add_sub_cancel_left]
theorem gm_rd2 {x y : UInt8} (h : b.data.toList.drop pc = x :: y :: r) : (Reader.u2 : Decoder Nat) b pc = .ok (x.toNat * 256 + y.toNat, pc + 2) ∧ b.data.toList.drop (pc + 2) = r := by
  have h1 := gm_rd1 h
  have h2 := gm_rd1 h1.2
  refine ⟨?_, h2.2⟩
  unfold Reader.u2
  exact gm_bnd h1.1 (gm_bnd h2.1 rfl)
theorem gm_rds1 {x : UInt8} (h : b.data.toList.drop pc = x :: r) : (Reader.s1 : Decoder Int) b pc = .ok (Reader.signed 8 x.toNat, pc + 1) := gm_mpd (gm_rd1 h).1
theorem gm_rds2 {x y : UInt8} (h : b.data.toList.drop pc = x :: y :: r) : (Reader.s2 : Decoder Int) b pc = .ok (Reader.signed 16 (x.toNat * 256 + y.toNat), pc + 2) := gm_mpd (gm_rd2 h).1
/-! bytes by a shape: none, a number of one byte, a signed one, of two bytes, a signed one, two of one byte -/
def gm_f0 (op : Nat) : List UInt8 → Option (Nat × List UInt8)
  | x :: r => bif Nat.beq x.toNat op then some (1, r) else none
  | _ => none
def gm_f1 (op : Nat) (a : Int) : List UInt8 → Option (Nat × List UInt8)
  | x :: y :: r => bif Nat.beq x.toNat op && decide ((y.toNat : Int) = a) then some (2, r) else none
  | _ => none
def gm_f2 (op : Nat) (a : Int) : List UInt8 → Option (Nat × List UInt8)
  | x :: y :: r => bif Nat.beq x.toNat op && decide (Reader.signed 8 y.toNat = a) then some (2, r) else none
  | _ => none
def gm_f3 (op : Nat) (a : Int) : List UInt8 → Option (Nat × List UInt8)
  | x :: y :: z :: r => bif Nat.beq x.toNat op && decide (((y.toNat * 256 + z.toNat : Nat) : Int) = a) then some (3, r) else none
  | _ => none
def gm_f4 (op : Nat) (a : Int) : List UInt8 → Option (Nat × List UInt8)
  | x :: y :: z :: r => bif Nat.beq x.toNat op && decide (Reader.signed 16 (y.toNat * 256 + z.toNat) = a) then some (3, r) else none
  | _ => none
def gm_f5 (op : Nat) (a c : Int) : List UInt8 → Option (Nat × List UInt8)
  | x :: y :: z :: r => bif Nat.beq x.toNat op && (decide ((y.toNat : Int) = a) && decide (Reader.signed 8 z.toNat = c)) then some (3, r) else none
  | _ => none
def gm_fit (p : Nat × Nat × Int × Int) (l : List UInt8) : Option (Nat × List UInt8) := match p.1 with
  | 0 => gm_f0 p.2.1 l
  | 1 => gm_f1 p.2.1 p.2.2.1 l
  | 2 => gm_f2 p.2.1 p.2.2.1 l
  | 3 => gm_f3 p.2.1 p.2.2.1 l
  | 4 => gm_f4 p.2.1 p.2.2.1 l
  | 5 => gm_f5 p.2.1 p.2.2.1 p.2.2.2 l
  | _ => none
variable {l : List UInt8} {op : Nat} {a c : Int}
theorem gm_g0 (h : gm_f0 op l = some (n, r)) : ∃ x, l = x :: r ∧ x.toNat = op ∧ n = 1 := by
  cases l with
  | nil => cases h
  | cons x t =>
    have h : (bif Nat.beq x.toNat op then some (1, t) else none) = some (n, r) := h
    cases e : Nat.beq x.toNat op with
    | false => rw [e] at h; cases h
    | true => rw [e] at h; cases h; exact ⟨x, rfl, Nat.eq_of_beq_eq_true e, rfl⟩
theorem gm_g1 (h : gm_f1 op a l = some (n, r)) : ∃ x y, l = x :: y :: r ∧ x.toNat = op ∧ (y.toNat : Int) = a ∧ n = 2 := by
  match l, h with
  | x :: y :: t, h =>
    have h : (bif Nat.beq x.toNat op && decide ((y.toNat : Int) = a) then some (2, t) else none) = some (n, r) := h
    cases e : (Nat.beq x.toNat op && decide ((y.toNat : Int) = a)) with
    | false => rw [e] at h; cases h
    | true =>
      rw [e] at h; cases h
      simp only [Bool.and_eq_true, decide_eq_true_eq] at e
      exact ⟨x, y, rfl, Nat.eq_of_beq_eq_true e.1, e.2, rfl⟩
  | [x], h => cases h
  | [], h => cases h
theorem gm_g2 (h : gm_f2 op a l = some (n, r)) : ∃ x y, l = x :: y :: r ∧ x.toNat = op ∧ Reader.signed 8 y.toNat = a ∧ n = 2 := by
  match l, h with
  | x :: y :: t, h =>
    have h : (bif Nat.beq x.toNat op && decide (Reader.signed 8 y.toNat = a) then some (2, t) else none) = some (n, r) := h
    cases e : (Nat.beq x.toNat op && decide (Reader.signed 8 y.toNat = a)) with
    | false => rw [e] at h; cases h
    | true =>
      rw [e] at h; cases h
      simp only [Bool.and_eq_true, decide_eq_true_eq] at e
      exact ⟨x, y, rfl, Nat.eq_of_beq_eq_true e.1, e.2, rfl⟩
  | [x], h => cases h
  | [], h => cases h
theorem gm_g3 (h : gm_f3 op a l = some (n, r)) : ∃ x y z, l = x :: y :: z :: r ∧ x.toNat = op ∧ ((y.toNat * 256 + z.toNat : Nat) : Int) = a ∧ n = 3 := by
  match l, h with
  | x :: y :: z :: t, h =>
    have h : (bif Nat.beq x.toNat op && decide (((y.toNat * 256 + z.toNat : Nat) : Int) = a) then some (3, t) else none) = some (n, r) := h
    cases e : (Nat.beq x.toNat op && decide (((y.toNat * 256 + z.toNat : Nat) : Int) = a)) with
    | false => rw [e] at h; cases h
    | true =>
      rw [e] at h; cases h
      simp only [Bool.and_eq_true, decide_eq_true_eq] at e
      exact ⟨x, y, z, rfl, Nat.eq_of_beq_eq_true e.1, e.2, rfl⟩
  | [x, y], h => cases h
  | [x], h => cases h
  | [], h => cases h
theorem gm_g4 (h : gm_f4 op a l = some (n, r)) : ∃ x y z, l = x :: y :: z :: r ∧ x.toNat = op ∧ Reader.signed 16 (y.toNat * 256 + z.toNat) = a ∧ n = 3 := by
  match l, h with
  | x :: y :: z :: t, h =>
    have h : (bif Nat.beq x.toNat op && decide (Reader.signed 16 (y.toNat * 256 + z.toNat) = a) then some (3, t) else none) = some (n, r) := h
    cases e : (Nat.beq x.toNat op && decide (Reader.signed 16 (y.toNat * 256 + z.toNat) = a)) with
    | false => rw [e] at h; cases h
    | true =>
      rw [e] at h; cases h
      simp only [Bool.and_eq_true, decide_eq_true_eq] at e
      exact ⟨x, y, z, rfl, Nat.eq_of_beq_eq_true e.1, e.2, rfl⟩
  | [x, y], h => cases h
  | [x], h => cases h
  | [], h => cases h
theorem gm_g5 (h : gm_f5 op a c l = some (n, r)) : ∃ x y z, l = x :: y :: z :: r ∧ x.toNat = op ∧ (y.toNat : Int) = a ∧ Reader.signed 8 z.toNat = c ∧ n = 3 := by
  match l, h with
  | x :: y :: z :: t, h =>
    have h : (bif Nat.beq x.toNat op && (decide ((y.toNat : Int) = a) && decide (Reader.signed 8 z.toNat = c)) then some (3, t) else none) = some (n, r) := h
    cases e : (Nat.beq x.toNat op && (decide ((y.toNat : Int) = a) && decide (Reader.signed 8 z.toNat = c))) with
    | false => rw [e] at h; cases h
    | true =>
      rw [e] at h; cases h
      simp only [Bool.and_eq_true, decide_eq_true_eq] at e
      exact ⟨x, y, z, rfl, Nat.eq_of_beq_eq_true e.1, e.2.1, e.2.2, rfl⟩
  | [x, y], h => cases h
  | [x], h => cases h
  | [], h => cases h
theorem gm_e_iaload {x : UInt8} (h : b.data.toList.drop pc = x :: r) (hx : x.toNat = 46) : decode b pc = .ok (.iaload, 1) := by
  have h1 := gm_rd1 h
  have h2 := h1.1
  rw [hx] at h2
  refine gm_dcd (show Decoder.instr pc b pc = .ok (.iaload, pc + 1) from ?_)
  unfold Decoder.instr
  exact gm_bnd h2 (rfl)
theorem gm_e_laload {x : UInt8} (h : b.data.toList.drop pc = x :: r) (hx : x.toNat = 47) : decode b pc = .ok (.laload, 1) := by
  have h1 := gm_rd1 h
  have h2 := h1.1
  rw [hx] at h2
  refine gm_dcd (show Decoder.instr pc b pc = .ok (.laload, pc + 1) from ?_)
  unfold Decoder.instr
  exact gm_bnd h2 (rfl)
theorem gm_e_aaload {x : UInt8} (h : b.data.toList.drop pc = x :: r) (hx : x.toNat = 50) : decode b pc = .ok (.aaload, 1) := by
  have h1 := gm_rd1 h
  have h2 := h1.1
  rw [hx] at h2
  refine gm_dcd (show Decoder.instr pc b pc = .ok (.aaload, pc + 1) from ?_)
  unfold Decoder.instr
  exact gm_bnd h2 (rfl)
theorem gm_e_baload {x : UInt8} (h : b.data.toList.drop pc = x :: r) (hx : x.toNat = 51) : decode b pc = .ok (.baload, 1) := by
  have h1 := gm_rd1 h
  have h2 := h1.1
  rw [hx] at h2
  refine gm_dcd (show Decoder.instr pc b pc = .ok (.baload, pc + 1) from ?_)
  unfold Decoder.instr
  exact gm_bnd h2 (rfl)
theorem gm_e_iastore {x : UInt8} (h : b.data.toList.drop pc = x :: r) (hx : x.toNat = 79) : decode b pc = .ok (.iastore, 1) := by
  have h1 := gm_rd1 h
  have h2 := h1.1
  rw [hx] at h2
  refine gm_dcd (show Decoder.instr pc b pc = .ok (.iastore, pc + 1) from ?_)
  unfold Decoder.instr
  exact gm_bnd h2 (rfl)
theorem gm_e_lastore {x : UInt8} (h : b.data.toList.drop pc = x :: r) (hx : x.toNat = 80) : decode b pc = .ok (.lastore, 1) := by
  have h1 := gm_rd1 h
  have h2 := h1.1
  rw [hx] at h2
  refine gm_dcd (show Decoder.instr pc b pc = .ok (.lastore, pc + 1) from ?_)
  unfold Decoder.instr
  exact gm_bnd h2 (rfl)
theorem gm_e_aastore {x : UInt8} (h : b.data.toList.drop pc = x :: r) (hx : x.toNat = 83) : decode b pc = .ok (.aastore, 1) := by
  have h1 := gm_rd1 h
  have h2 := h1.1
  rw [hx] at h2
  refine gm_dcd (show Decoder.instr pc b pc = .ok (.aastore, pc + 1) from ?_)
  unfold Decoder.instr
  exact gm_bnd h2 (rfl)
theorem gm_e_bastore {x : UInt8} (h : b.data.toList.drop pc = x :: r) (hx : x.toNat = 84) : decode b pc = .ok (.bastore, 1) := by
  have h1 := gm_rd1 h
  have h2 := h1.1
  rw [hx] at h2
  refine gm_dcd (show Decoder.instr pc b pc = .ok (.bastore, pc + 1) from ?_)
  unfold Decoder.instr
  exact gm_bnd h2 (rfl)
theorem gm_e_pop {x : UInt8} (h : b.data.toList.drop pc = x :: r) (hx : x.toNat = 87) : decode b pc = .ok (.pop, 1) := by
  have h1 := gm_rd1 h
  have h2 := h1.1
  rw [hx] at h2
  refine gm_dcd (show Decoder.instr pc b pc = .ok (.pop, pc + 1) from ?_)
  unfold Decoder.instr
  exact gm_bnd h2 (rfl)
theorem gm_e_dup {x : UInt8} (h : b.data.toList.drop pc = x :: r) (hx : x.toNat = 89) : decode b pc = .ok (.dup, 1) := by
  have h1 := gm_rd1 h
  have h2 := h1.1
  rw [hx] at h2
  refine gm_dcd (show Decoder.instr pc b pc = .ok (.dup, pc + 1) from ?_)
  unfold Decoder.instr
  exact gm_bnd h2 (rfl)
theorem gm_e_dup2 {x : UInt8} (h : b.data.toList.drop pc = x :: r) (hx : x.toNat = 92) : decode b pc = .ok (.dup2, 1) := by
  have h1 := gm_rd1 h
  have h2 := h1.1
  rw [hx] at h2
  refine gm_dcd (show Decoder.instr pc b pc = .ok (.dup2, pc + 1) from ?_)
  unfold Decoder.instr
  exact gm_bnd h2 (rfl)
theorem gm_e_iadd {x : UInt8} (h : b.data.toList.drop pc = x :: r) (hx : x.toNat = 96) : decode b pc = .ok (.iadd, 1) := by
  have h1 := gm_rd1 h
  have h2 := h1.1
  rw [hx] at h2
  refine gm_dcd (show Decoder.instr pc b pc = .ok (.iadd, pc + 1) from ?_)
  unfold Decoder.instr
  exact gm_bnd h2 (rfl)
theorem gm_e_isub {x : UInt8} (h : b.data.toList.drop pc = x :: r) (hx : x.toNat = 100) : decode b pc = .ok (.isub, 1) := by
  have h1 := gm_rd1 h
  have h2 := h1.1
  rw [hx] at h2
  refine gm_dcd (show Decoder.instr pc b pc = .ok (.isub, pc + 1) from ?_)
  unfold Decoder.instr
  exact gm_bnd h2 (rfl)
theorem gm_e_imul {x : UInt8} (h : b.data.toList.drop pc = x :: r) (hx : x.toNat = 104) : decode b pc = .ok (.imul, 1) := by
  have h1 := gm_rd1 h
  have h2 := h1.1
  rw [hx] at h2
  refine gm_dcd (show Decoder.instr pc b pc = .ok (.imul, pc + 1) from ?_)
  unfold Decoder.instr
  exact gm_bnd h2 (rfl)
theorem gm_e_idiv {x : UInt8} (h : b.data.toList.drop pc = x :: r) (hx : x.toNat = 108) : decode b pc = .ok (.idiv, 1) := by
  have h1 := gm_rd1 h
  have h2 := h1.1
  rw [hx] at h2
  refine gm_dcd (show Decoder.instr pc b pc = .ok (.idiv, pc + 1) from ?_)
  unfold Decoder.instr
  exact gm_bnd h2 (rfl)
theorem gm_e_irem {x : UInt8} (h : b.data.toList.drop pc = x :: r) (hx : x.toNat = 112) : decode b pc = .ok (.irem, 1) := by
  have h1 := gm_rd1 h
  have h2 := h1.1
  rw [hx] at h2
  refine gm_dcd (show Decoder.instr pc b pc = .ok (.irem, pc + 1) from ?_)
  unfold Decoder.instr
  exact gm_bnd h2 (rfl)
theorem gm_e_ineg {x : UInt8} (h : b.data.toList.drop pc = x :: r) (hx : x.toNat = 116) : decode b pc = .ok (.ineg, 1) := by
  have h1 := gm_rd1 h
  have h2 := h1.1
  rw [hx] at h2
  refine gm_dcd (show Decoder.instr pc b pc = .ok (.ineg, pc + 1) from ?_)
  unfold Decoder.instr
  exact gm_bnd h2 (rfl)
theorem gm_e_ishl {x : UInt8} (h : b.data.toList.drop pc = x :: r) (hx : x.toNat = 120) : decode b pc = .ok (.ishl, 1) := by
  have h1 := gm_rd1 h
  have h2 := h1.1
  rw [hx] at h2
  refine gm_dcd (show Decoder.instr pc b pc = .ok (.ishl, pc + 1) from ?_)
  unfold Decoder.instr
  exact gm_bnd h2 (rfl)
theorem gm_e_lshl {x : UInt8} (h : b.data.toList.drop pc = x :: r) (hx : x.toNat = 121) : decode b pc = .ok (.lshl, 1) := by
  have h1 := gm_rd1 h
  have h2 := h1.1
  rw [hx] at h2
  refine gm_dcd (show Decoder.instr pc b pc = .ok (.lshl, pc + 1) from ?_)
  unfold Decoder.instr
  exact gm_bnd h2 (rfl)
theorem gm_e_ishr {x : UInt8} (h : b.data.toList.drop pc = x :: r) (hx : x.toNat = 122) : decode b pc = .ok (.ishr, 1) := by
  have h1 := gm_rd1 h
  have h2 := h1.1
  rw [hx] at h2
  refine gm_dcd (show Decoder.instr pc b pc = .ok (.ishr, pc + 1) from ?_)
  unfold Decoder.instr
  exact gm_bnd h2 (rfl)
theorem gm_e_iushr {x : UInt8} (h : b.data.toList.drop pc = x :: r) (hx : x.toNat = 124) : decode b pc = .ok (.iushr, 1) := by
  have h1 := gm_rd1 h
  have h2 := h1.1
  rw [hx] at h2
  refine gm_dcd (show Decoder.instr pc b pc = .ok (.iushr, pc + 1) from ?_)
  unfold Decoder.instr
  exact gm_bnd h2 (rfl)
theorem gm_e_lushr {x : UInt8} (h : b.data.toList.drop pc = x :: r) (hx : x.toNat = 125) : decode b pc = .ok (.lushr, 1) := by
  have h1 := gm_rd1 h
  have h2 := h1.1
  rw [hx] at h2
  refine gm_dcd (show Decoder.instr pc b pc = .ok (.lushr, pc + 1) from ?_)
  unfold Decoder.instr
  exact gm_bnd h2 (rfl)
theorem gm_e_iand {x : UInt8} (h : b.data.toList.drop pc = x :: r) (hx : x.toNat = 126) : decode b pc = .ok (.iand, 1) := by
  have h1 := gm_rd1 h
  have h2 := h1.1
  rw [hx] at h2
  refine gm_dcd (show Decoder.instr pc b pc = .ok (.iand, pc + 1) from ?_)
  unfold Decoder.instr
  exact gm_bnd h2 (rfl)
theorem gm_e_land {x : UInt8} (h : b.data.toList.drop pc = x :: r) (hx : x.toNat = 127) : decode b pc = .ok (.land, 1) := by
  have h1 := gm_rd1 h
  have h2 := h1.1
  rw [hx] at h2
  refine gm_dcd (show Decoder.instr pc b pc = .ok (.land, pc + 1) from ?_)
  unfold Decoder.instr
  exact gm_bnd h2 (rfl)
theorem gm_e_ior {x : UInt8} (h : b.data.toList.drop pc = x :: r) (hx : x.toNat = 128) : decode b pc = .ok (.ior, 1) := by
  have h1 := gm_rd1 h
  have h2 := h1.1
  rw [hx] at h2
  refine gm_dcd (show Decoder.instr pc b pc = .ok (.ior, pc + 1) from ?_)
  unfold Decoder.instr
  exact gm_bnd h2 (rfl)
theorem gm_e_lor {x : UInt8} (h : b.data.toList.drop pc = x :: r) (hx : x.toNat = 129) : decode b pc = .ok (.lor, 1) := by
  have h1 := gm_rd1 h
  have h2 := h1.1
  rw [hx] at h2
  refine gm_dcd (show Decoder.instr pc b pc = .ok (.lor, pc + 1) from ?_)
  unfold Decoder.instr
  exact gm_bnd h2 (rfl)
theorem gm_e_ixor {x : UInt8} (h : b.data.toList.drop pc = x :: r) (hx : x.toNat = 130) : decode b pc = .ok (.ixor, 1) := by
  have h1 := gm_rd1 h
  have h2 := h1.1
  rw [hx] at h2
  refine gm_dcd (show Decoder.instr pc b pc = .ok (.ixor, pc + 1) from ?_)
  unfold Decoder.instr
  exact gm_bnd h2 (rfl)
theorem gm_e_lxor {x : UInt8} (h : b.data.toList.drop pc = x :: r) (hx : x.toNat = 131) : decode b pc = .ok (.lxor, 1) := by
  have h1 := gm_rd1 h
  have h2 := h1.1
  rw [hx] at h2
  refine gm_dcd (show Decoder.instr pc b pc = .ok (.lxor, pc + 1) from ?_)
  unfold Decoder.instr
  exact gm_bnd h2 (rfl)
theorem gm_e_i2l {x : UInt8} (h : b.data.toList.drop pc = x :: r) (hx : x.toNat = 133) : decode b pc = .ok (.i2l, 1) := by
  have h1 := gm_rd1 h
  have h2 := h1.1
  rw [hx] at h2
  refine gm_dcd (show Decoder.instr pc b pc = .ok (.i2l, pc + 1) from ?_)
  unfold Decoder.instr
  exact gm_bnd h2 (rfl)
theorem gm_e_l2i {x : UInt8} (h : b.data.toList.drop pc = x :: r) (hx : x.toNat = 136) : decode b pc = .ok (.l2i, 1) := by
  have h1 := gm_rd1 h
  have h2 := h1.1
  rw [hx] at h2
  refine gm_dcd (show Decoder.instr pc b pc = .ok (.l2i, pc + 1) from ?_)
  unfold Decoder.instr
  exact gm_bnd h2 (rfl)
theorem gm_e_i2b {x : UInt8} (h : b.data.toList.drop pc = x :: r) (hx : x.toNat = 145) : decode b pc = .ok (.i2b, 1) := by
  have h1 := gm_rd1 h
  have h2 := h1.1
  rw [hx] at h2
  refine gm_dcd (show Decoder.instr pc b pc = .ok (.i2b, pc + 1) from ?_)
  unfold Decoder.instr
  exact gm_bnd h2 (rfl)
theorem gm_e_i2c {x : UInt8} (h : b.data.toList.drop pc = x :: r) (hx : x.toNat = 146) : decode b pc = .ok (.i2c, 1) := by
  have h1 := gm_rd1 h
  have h2 := h1.1
  rw [hx] at h2
  refine gm_dcd (show Decoder.instr pc b pc = .ok (.i2c, pc + 1) from ?_)
  unfold Decoder.instr
  exact gm_bnd h2 (rfl)
theorem gm_e_lcmp {x : UInt8} (h : b.data.toList.drop pc = x :: r) (hx : x.toNat = 148) : decode b pc = .ok (.lcmp, 1) := by
  have h1 := gm_rd1 h
  have h2 := h1.1
  rw [hx] at h2
  refine gm_dcd (show Decoder.instr pc b pc = .ok (.lcmp, pc + 1) from ?_)
  unfold Decoder.instr
  exact gm_bnd h2 (rfl)
theorem gm_e_ireturn {x : UInt8} (h : b.data.toList.drop pc = x :: r) (hx : x.toNat = 172) : decode b pc = .ok (.ireturn, 1) := by
  have h1 := gm_rd1 h
  have h2 := h1.1
  rw [hx] at h2
  refine gm_dcd (show Decoder.instr pc b pc = .ok (.ireturn, pc + 1) from ?_)
  unfold Decoder.instr
  exact gm_bnd h2 (rfl)
theorem gm_e_areturn {x : UInt8} (h : b.data.toList.drop pc = x :: r) (hx : x.toNat = 176) : decode b pc = .ok (.areturn, 1) := by
  have h1 := gm_rd1 h
  have h2 := h1.1
  rw [hx] at h2
  refine gm_dcd (show Decoder.instr pc b pc = .ok (.areturn, pc + 1) from ?_)
  unfold Decoder.instr
  exact gm_bnd h2 (rfl)
theorem gm_e_return_ {x : UInt8} (h : b.data.toList.drop pc = x :: r) (hx : x.toNat = 177) : decode b pc = .ok (.return_, 1) := by
  have h1 := gm_rd1 h
  have h2 := h1.1
  rw [hx] at h2
  refine gm_dcd (show Decoder.instr pc b pc = .ok (.return_, pc + 1) from ?_)
  unfold Decoder.instr
  exact gm_bnd h2 (rfl)
theorem gm_e_arraylength {x : UInt8} (h : b.data.toList.drop pc = x :: r) (hx : x.toNat = 190) : decode b pc = .ok (.arraylength, 1) := by
  have h1 := gm_rd1 h
  have h2 := h1.1
  rw [hx] at h2
  refine gm_dcd (show Decoder.instr pc b pc = .ok (.arraylength, pc + 1) from ?_)
  unfold Decoder.instr
  exact gm_bnd h2 (rfl)
theorem gm_e_athrow {x : UInt8} (h : b.data.toList.drop pc = x :: r) (hx : x.toNat = 191) : decode b pc = .ok (.athrow, 1) := by
  have h1 := gm_rd1 h
  have h2 := h1.1
  rw [hx] at h2
  refine gm_dcd (show Decoder.instr pc b pc = .ok (.athrow, pc + 1) from ?_)
  unfold Decoder.instr
  exact gm_bnd h2 (rfl)
theorem gm_e_aconst_null {x : UInt8} (h : b.data.toList.drop pc = x :: r) (hx : x.toNat = 1) : decode b pc = .ok (.aconst_null, 1) := by
  have h1 := gm_rd1 h
  have h2 := h1.1
  rw [hx] at h2
  refine gm_dcd (show Decoder.instr pc b pc = .ok (.aconst_null, pc + 1) from ?_)
  unfold Decoder.instr
  exact gm_bnd h2 (rfl)
theorem gm_e_iload_n0 {x : UInt8} (h : b.data.toList.drop pc = x :: r) (hx : x.toNat = 26) : decode b pc = .ok (.iload_n 0, 1) := by
  have h1 := gm_rd1 h
  have h2 := h1.1
  rw [hx] at h2
  refine gm_dcd (show Decoder.instr pc b pc = .ok (.iload_n 0, pc + 1) from ?_)
  unfold Decoder.instr
  exact gm_bnd h2 (rfl)
theorem gm_e_iload_n1 {x : UInt8} (h : b.data.toList.drop pc = x :: r) (hx : x.toNat = 27) : decode b pc = .ok (.iload_n 1, 1) := by
  have h1 := gm_rd1 h
  have h2 := h1.1
  rw [hx] at h2
  refine gm_dcd (show Decoder.instr pc b pc = .ok (.iload_n 1, pc + 1) from ?_)
  unfold Decoder.instr
  exact gm_bnd h2 (rfl)
theorem gm_e_iload_n2 {x : UInt8} (h : b.data.toList.drop pc = x :: r) (hx : x.toNat = 28) : decode b pc = .ok (.iload_n 2, 1) := by
  have h1 := gm_rd1 h
  have h2 := h1.1
  rw [hx] at h2
  refine gm_dcd (show Decoder.instr pc b pc = .ok (.iload_n 2, pc + 1) from ?_)
  unfold Decoder.instr
  exact gm_bnd h2 (rfl)
theorem gm_e_iload_n3 {x : UInt8} (h : b.data.toList.drop pc = x :: r) (hx : x.toNat = 29) : decode b pc = .ok (.iload_n 3, 1) := by
  have h1 := gm_rd1 h
  have h2 := h1.1
  rw [hx] at h2
  refine gm_dcd (show Decoder.instr pc b pc = .ok (.iload_n 3, pc + 1) from ?_)
  unfold Decoder.instr
  exact gm_bnd h2 (rfl)
theorem gm_e_lload_n0 {x : UInt8} (h : b.data.toList.drop pc = x :: r) (hx : x.toNat = 30) : decode b pc = .ok (.lload_n 0, 1) := by
  have h1 := gm_rd1 h
  have h2 := h1.1
  rw [hx] at h2
  refine gm_dcd (show Decoder.instr pc b pc = .ok (.lload_n 0, pc + 1) from ?_)
  unfold Decoder.instr
  exact gm_bnd h2 (rfl)
theorem gm_e_lload_n1 {x : UInt8} (h : b.data.toList.drop pc = x :: r) (hx : x.toNat = 31) : decode b pc = .ok (.lload_n 1, 1) := by
  have h1 := gm_rd1 h
  have h2 := h1.1
  rw [hx] at h2
  refine gm_dcd (show Decoder.instr pc b pc = .ok (.lload_n 1, pc + 1) from ?_)
  unfold Decoder.instr
  exact gm_bnd h2 (rfl)
theorem gm_e_lload_n2 {x : UInt8} (h : b.data.toList.drop pc = x :: r) (hx : x.toNat = 32) : decode b pc = .ok (.lload_n 2, 1) := by
  have h1 := gm_rd1 h
  have h2 := h1.1
  rw [hx] at h2
  refine gm_dcd (show Decoder.instr pc b pc = .ok (.lload_n 2, pc + 1) from ?_)
  unfold Decoder.instr
  exact gm_bnd h2 (rfl)
theorem gm_e_lload_n3 {x : UInt8} (h : b.data.toList.drop pc = x :: r) (hx : x.toNat = 33) : decode b pc = .ok (.lload_n 3, 1) := by
  have h1 := gm_rd1 h
  have h2 := h1.1
  rw [hx] at h2
  refine gm_dcd (show Decoder.instr pc b pc = .ok (.lload_n 3, pc + 1) from ?_)
  unfold Decoder.instr
  exact gm_bnd h2 (rfl)
theorem gm_e_aload_n0 {x : UInt8} (h : b.data.toList.drop pc = x :: r) (hx : x.toNat = 42) : decode b pc = .ok (.aload_n 0, 1) := by
  have h1 := gm_rd1 h
  have h2 := h1.1
  rw [hx] at h2
  refine gm_dcd (show Decoder.instr pc b pc = .ok (.aload_n 0, pc + 1) from ?_)
  unfold Decoder.instr
  exact gm_bnd h2 (rfl)
theorem gm_e_aload_n1 {x : UInt8} (h : b.data.toList.drop pc = x :: r) (hx : x.toNat = 43) : decode b pc = .ok (.aload_n 1, 1) := by
  have h1 := gm_rd1 h
  have h2 := h1.1
  rw [hx] at h2
  refine gm_dcd (show Decoder.instr pc b pc = .ok (.aload_n 1, pc + 1) from ?_)
  unfold Decoder.instr
  exact gm_bnd h2 (rfl)
theorem gm_e_aload_n2 {x : UInt8} (h : b.data.toList.drop pc = x :: r) (hx : x.toNat = 44) : decode b pc = .ok (.aload_n 2, 1) := by
  have h1 := gm_rd1 h
  have h2 := h1.1
  rw [hx] at h2
  refine gm_dcd (show Decoder.instr pc b pc = .ok (.aload_n 2, pc + 1) from ?_)
  unfold Decoder.instr
  exact gm_bnd h2 (rfl)
theorem gm_e_aload_n3 {x : UInt8} (h : b.data.toList.drop pc = x :: r) (hx : x.toNat = 45) : decode b pc = .ok (.aload_n 3, 1) := by
  have h1 := gm_rd1 h
  have h2 := h1.1
  rw [hx] at h2
  refine gm_dcd (show Decoder.instr pc b pc = .ok (.aload_n 3, pc + 1) from ?_)
  unfold Decoder.instr
  exact gm_bnd h2 (rfl)
theorem gm_e_istore_n0 {x : UInt8} (h : b.data.toList.drop pc = x :: r) (hx : x.toNat = 59) : decode b pc = .ok (.istore_n 0, 1) := by
  have h1 := gm_rd1 h
  have h2 := h1.1
  rw [hx] at h2
  refine gm_dcd (show Decoder.instr pc b pc = .ok (.istore_n 0, pc + 1) from ?_)
  unfold Decoder.instr
  exact gm_bnd h2 (rfl)
theorem gm_e_istore_n1 {x : UInt8} (h : b.data.toList.drop pc = x :: r) (hx : x.toNat = 60) : decode b pc = .ok (.istore_n 1, 1) := by
  have h1 := gm_rd1 h
  have h2 := h1.1
  rw [hx] at h2
  refine gm_dcd (show Decoder.instr pc b pc = .ok (.istore_n 1, pc + 1) from ?_)
  unfold Decoder.instr
  exact gm_bnd h2 (rfl)
theorem gm_e_istore_n2 {x : UInt8} (h : b.data.toList.drop pc = x :: r) (hx : x.toNat = 61) : decode b pc = .ok (.istore_n 2, 1) := by
  have h1 := gm_rd1 h
  have h2 := h1.1
  rw [hx] at h2
  refine gm_dcd (show Decoder.instr pc b pc = .ok (.istore_n 2, pc + 1) from ?_)
  unfold Decoder.instr
  exact gm_bnd h2 (rfl)
theorem gm_e_istore_n3 {x : UInt8} (h : b.data.toList.drop pc = x :: r) (hx : x.toNat = 62) : decode b pc = .ok (.istore_n 3, 1) := by
  have h1 := gm_rd1 h
  have h2 := h1.1
  rw [hx] at h2
  refine gm_dcd (show Decoder.instr pc b pc = .ok (.istore_n 3, pc + 1) from ?_)
  unfold Decoder.instr
  exact gm_bnd h2 (rfl)
theorem gm_e_lstore_n0 {x : UInt8} (h : b.data.toList.drop pc = x :: r) (hx : x.toNat = 63) : decode b pc = .ok (.lstore_n 0, 1) := by
  have h1 := gm_rd1 h
  have h2 := h1.1
  rw [hx] at h2
  refine gm_dcd (show Decoder.instr pc b pc = .ok (.lstore_n 0, pc + 1) from ?_)
  unfold Decoder.instr
  exact gm_bnd h2 (rfl)
theorem gm_e_lstore_n1 {x : UInt8} (h : b.data.toList.drop pc = x :: r) (hx : x.toNat = 64) : decode b pc = .ok (.lstore_n 1, 1) := by
  have h1 := gm_rd1 h
  have h2 := h1.1
  rw [hx] at h2
  refine gm_dcd (show Decoder.instr pc b pc = .ok (.lstore_n 1, pc + 1) from ?_)
  unfold Decoder.instr
  exact gm_bnd h2 (rfl)
theorem gm_e_lstore_n2 {x : UInt8} (h : b.data.toList.drop pc = x :: r) (hx : x.toNat = 65) : decode b pc = .ok (.lstore_n 2, 1) := by
  have h1 := gm_rd1 h
  have h2 := h1.1
  rw [hx] at h2
  refine gm_dcd (show Decoder.instr pc b pc = .ok (.lstore_n 2, pc + 1) from ?_)
  unfold Decoder.instr
  exact gm_bnd h2 (rfl)
theorem gm_e_lstore_n3 {x : UInt8} (h : b.data.toList.drop pc = x :: r) (hx : x.toNat = 66) : decode b pc = .ok (.lstore_n 3, 1) := by
  have h1 := gm_rd1 h
  have h2 := h1.1
  rw [hx] at h2
  refine gm_dcd (show Decoder.instr pc b pc = .ok (.lstore_n 3, pc + 1) from ?_)
  unfold Decoder.instr
  exact gm_bnd h2 (rfl)
theorem gm_e_astore_n0 {x : UInt8} (h : b.data.toList.drop pc = x :: r) (hx : x.toNat = 75) : decode b pc = .ok (.astore_n 0, 1) := by
  have h1 := gm_rd1 h
  have h2 := h1.1
  rw [hx] at h2
  refine gm_dcd (show Decoder.instr pc b pc = .ok (.astore_n 0, pc + 1) from ?_)
  unfold Decoder.instr
  exact gm_bnd h2 (rfl)
theorem gm_e_astore_n1 {x : UInt8} (h : b.data.toList.drop pc = x :: r) (hx : x.toNat = 76) : decode b pc = .ok (.astore_n 1, 1) := by
  have h1 := gm_rd1 h
  have h2 := h1.1
  rw [hx] at h2
  refine gm_dcd (show Decoder.instr pc b pc = .ok (.astore_n 1, pc + 1) from ?_)
  unfold Decoder.instr
  exact gm_bnd h2 (rfl)
theorem gm_e_astore_n2 {x : UInt8} (h : b.data.toList.drop pc = x :: r) (hx : x.toNat = 77) : decode b pc = .ok (.astore_n 2, 1) := by
  have h1 := gm_rd1 h
  have h2 := h1.1
  rw [hx] at h2
  refine gm_dcd (show Decoder.instr pc b pc = .ok (.astore_n 2, pc + 1) from ?_)
  unfold Decoder.instr
  exact gm_bnd h2 (rfl)
theorem gm_e_astore_n3 {x : UInt8} (h : b.data.toList.drop pc = x :: r) (hx : x.toNat = 78) : decode b pc = .ok (.astore_n 3, 1) := by
  have h1 := gm_rd1 h
  have h2 := h1.1
  rw [hx] at h2
  refine gm_dcd (show Decoder.instr pc b pc = .ok (.astore_n 3, pc + 1) from ?_)
  unfold Decoder.instr
  exact gm_bnd h2 (rfl)
theorem gm_e_iconstm1 {x : UInt8} (h : b.data.toList.drop pc = x :: r) (hx : x.toNat = 2) : decode b pc = .ok (.iconst (-1), 1) := by
  have h1 := gm_rd1 h
  have h2 := h1.1
  rw [hx] at h2
  refine gm_dcd (show Decoder.instr pc b pc = .ok (.iconst (-1), pc + 1) from ?_)
  unfold Decoder.instr
  exact gm_bnd h2 (rfl)
theorem gm_e_iconst0 {x : UInt8} (h : b.data.toList.drop pc = x :: r) (hx : x.toNat = 3) : decode b pc = .ok (.iconst (0), 1) := by
  have h1 := gm_rd1 h
  have h2 := h1.1
  rw [hx] at h2
  refine gm_dcd (show Decoder.instr pc b pc = .ok (.iconst (0), pc + 1) from ?_)
  unfold Decoder.instr
  exact gm_bnd h2 (rfl)
theorem gm_e_iconst1 {x : UInt8} (h : b.data.toList.drop pc = x :: r) (hx : x.toNat = 4) : decode b pc = .ok (.iconst (1), 1) := by
  have h1 := gm_rd1 h
  have h2 := h1.1
  rw [hx] at h2
  refine gm_dcd (show Decoder.instr pc b pc = .ok (.iconst (1), pc + 1) from ?_)
  unfold Decoder.instr
  exact gm_bnd h2 (rfl)
theorem gm_e_iconst2 {x : UInt8} (h : b.data.toList.drop pc = x :: r) (hx : x.toNat = 5) : decode b pc = .ok (.iconst (2), 1) := by
  have h1 := gm_rd1 h
  have h2 := h1.1
  rw [hx] at h2
  refine gm_dcd (show Decoder.instr pc b pc = .ok (.iconst (2), pc + 1) from ?_)
  unfold Decoder.instr
  exact gm_bnd h2 (rfl)
theorem gm_e_iconst3 {x : UInt8} (h : b.data.toList.drop pc = x :: r) (hx : x.toNat = 6) : decode b pc = .ok (.iconst (3), 1) := by
  have h1 := gm_rd1 h
  have h2 := h1.1
  rw [hx] at h2
  refine gm_dcd (show Decoder.instr pc b pc = .ok (.iconst (3), pc + 1) from ?_)
  unfold Decoder.instr
  exact gm_bnd h2 (rfl)
theorem gm_e_iconst4 {x : UInt8} (h : b.data.toList.drop pc = x :: r) (hx : x.toNat = 7) : decode b pc = .ok (.iconst (4), 1) := by
  have h1 := gm_rd1 h
  have h2 := h1.1
  rw [hx] at h2
  refine gm_dcd (show Decoder.instr pc b pc = .ok (.iconst (4), pc + 1) from ?_)
  unfold Decoder.instr
  exact gm_bnd h2 (rfl)
theorem gm_e_iconst5 {x : UInt8} (h : b.data.toList.drop pc = x :: r) (hx : x.toNat = 8) : decode b pc = .ok (.iconst (5), 1) := by
  have h1 := gm_rd1 h
  have h2 := h1.1
  rw [hx] at h2
  refine gm_dcd (show Decoder.instr pc b pc = .ok (.iconst (5), pc + 1) from ?_)
  unfold Decoder.instr
  exact gm_bnd h2 (rfl)
theorem gm_e_lconst0 {x : UInt8} (h : b.data.toList.drop pc = x :: r) (hx : x.toNat = 9) : decode b pc = .ok (.lconst 0, 1) := by
  have h1 := gm_rd1 h
  have h2 := h1.1
  rw [hx] at h2
  refine gm_dcd (show Decoder.instr pc b pc = .ok (.lconst 0, pc + 1) from ?_)
  unfold Decoder.instr
  exact gm_bnd h2 (rfl)
theorem gm_e_lconst1 {x : UInt8} (h : b.data.toList.drop pc = x :: r) (hx : x.toNat = 10) : decode b pc = .ok (.lconst 1, 1) := by
  have h1 := gm_rd1 h
  have h2 := h1.1
  rw [hx] at h2
  refine gm_dcd (show Decoder.instr pc b pc = .ok (.lconst 1, pc + 1) from ?_)
  unfold Decoder.instr
  exact gm_bnd h2 (rfl)
theorem gm_e_ldc {x y : UInt8} (h : b.data.toList.drop pc = x :: y :: r) (hx : x.toNat = 18) : decode b pc = .ok (.ldc y.toNat, 2) := by
  have h1 := gm_rd1 h
  have h2 := h1.1
  rw [hx] at h2
  refine gm_dcd (show Decoder.instr pc b pc = .ok (.ldc y.toNat, pc + 2) from ?_)
  unfold Decoder.instr
  exact gm_bnd h2 (show (Reader.u1 >>= fun k => pure (Instr.ldc k) : Decoder Instr) b (pc + 1) = _ from gm_bnd (gm_rd1 h1.2).1 rfl)
theorem gm_e_iload {x y : UInt8} (h : b.data.toList.drop pc = x :: y :: r) (hx : x.toNat = 21) : decode b pc = .ok (.iload y.toNat, 2) := by
  have h1 := gm_rd1 h
  have h2 := h1.1
  rw [hx] at h2
  refine gm_dcd (show Decoder.instr pc b pc = .ok (.iload y.toNat, pc + 2) from ?_)
  unfold Decoder.instr
  exact gm_bnd h2 (show (Reader.u1 >>= fun k => pure (Instr.iload k) : Decoder Instr) b (pc + 1) = _ from gm_bnd (gm_rd1 h1.2).1 rfl)
theorem gm_e_lload {x y : UInt8} (h : b.data.toList.drop pc = x :: y :: r) (hx : x.toNat = 22) : decode b pc = .ok (.lload y.toNat, 2) := by
  have h1 := gm_rd1 h
  have h2 := h1.1
  rw [hx] at h2
  refine gm_dcd (show Decoder.instr pc b pc = .ok (.lload y.toNat, pc + 2) from ?_)
  unfold Decoder.instr
  exact gm_bnd h2 (show (Reader.u1 >>= fun k => pure (Instr.lload k) : Decoder Instr) b (pc + 1) = _ from gm_bnd (gm_rd1 h1.2).1 rfl)
theorem gm_e_aload {x y : UInt8} (h : b.data.toList.drop pc = x :: y :: r) (hx : x.toNat = 25) : decode b pc = .ok (.aload y.toNat, 2) := by
  have h1 := gm_rd1 h
  have h2 := h1.1
  rw [hx] at h2
  refine gm_dcd (show Decoder.instr pc b pc = .ok (.aload y.toNat, pc + 2) from ?_)
  unfold Decoder.instr
  exact gm_bnd h2 (show (Reader.u1 >>= fun k => pure (Instr.aload k) : Decoder Instr) b (pc + 1) = _ from gm_bnd (gm_rd1 h1.2).1 rfl)
theorem gm_e_istore {x y : UInt8} (h : b.data.toList.drop pc = x :: y :: r) (hx : x.toNat = 54) : decode b pc = .ok (.istore y.toNat, 2) := by
  have h1 := gm_rd1 h
  have h2 := h1.1
  rw [hx] at h2
  refine gm_dcd (show Decoder.instr pc b pc = .ok (.istore y.toNat, pc + 2) from ?_)
  unfold Decoder.instr
  exact gm_bnd h2 (show (Reader.u1 >>= fun k => pure (Instr.istore k) : Decoder Instr) b (pc + 1) = _ from gm_bnd (gm_rd1 h1.2).1 rfl)
theorem gm_e_lstore {x y : UInt8} (h : b.data.toList.drop pc = x :: y :: r) (hx : x.toNat = 55) : decode b pc = .ok (.lstore y.toNat, 2) := by
  have h1 := gm_rd1 h
  have h2 := h1.1
  rw [hx] at h2
  refine gm_dcd (show Decoder.instr pc b pc = .ok (.lstore y.toNat, pc + 2) from ?_)
  unfold Decoder.instr
  exact gm_bnd h2 (show (Reader.u1 >>= fun k => pure (Instr.lstore k) : Decoder Instr) b (pc + 1) = _ from gm_bnd (gm_rd1 h1.2).1 rfl)
theorem gm_e_astore {x y : UInt8} (h : b.data.toList.drop pc = x :: y :: r) (hx : x.toNat = 58) : decode b pc = .ok (.astore y.toNat, 2) := by
  have h1 := gm_rd1 h
  have h2 := h1.1
  rw [hx] at h2
  refine gm_dcd (show Decoder.instr pc b pc = .ok (.astore y.toNat, pc + 2) from ?_)
  unfold Decoder.instr
  exact gm_bnd h2 (show (Reader.u1 >>= fun k => pure (Instr.astore k) : Decoder Instr) b (pc + 1) = _ from gm_bnd (gm_rd1 h1.2).1 rfl)
theorem gm_e_bipush {x y : UInt8} (h : b.data.toList.drop pc = x :: y :: r) (hx : x.toNat = 16) : decode b pc = .ok (.bipush (Reader.signed 8 y.toNat), 2) := by
  have h1 := gm_rd1 h
  have h2 := h1.1
  rw [hx] at h2
  refine gm_dcd (show Decoder.instr pc b pc = .ok (.bipush (Reader.signed 8 y.toNat), pc + 2) from ?_)
  unfold Decoder.instr
  exact gm_bnd h2 (show (Reader.s1 >>= fun k => pure (Instr.bipush k) : Decoder Instr) b (pc + 1) = _ from gm_bnd (gm_rds1 h1.2) rfl)
theorem gm_e_sipush {x y z : UInt8} (h : b.data.toList.drop pc = x :: y :: z :: r) (hx : x.toNat = 17) : decode b pc = .ok (.sipush (Reader.signed 16 (y.toNat * 256 + z.toNat)), 3) := by
  have h1 := gm_rd1 h
  have h2 := h1.1
  rw [hx] at h2
  refine gm_dcd (show Decoder.instr pc b pc = .ok (.sipush (Reader.signed 16 (y.toNat * 256 + z.toNat)), pc + 3) from ?_)
  unfold Decoder.instr
  exact gm_bnd h2 (show (Reader.s2 >>= fun k => pure (Instr.sipush k) : Decoder Instr) b (pc + 1) = _ from gm_bnd (gm_rds2 h1.2) rfl)
theorem gm_e_ldc_w {x y z : UInt8} (h : b.data.toList.drop pc = x :: y :: z :: r) (hx : x.toNat = 19) : decode b pc = .ok (.ldc_w (y.toNat * 256 + z.toNat), 3) := by
  have h1 := gm_rd1 h
  have h2 := h1.1
  rw [hx] at h2
  refine gm_dcd (show Decoder.instr pc b pc = .ok (.ldc_w (y.toNat * 256 + z.toNat), pc + 3) from ?_)
  unfold Decoder.instr
  exact gm_bnd h2 (show (Reader.u2 >>= fun k => pure (Instr.ldc_w k) : Decoder Instr) b (pc + 1) = _ from gm_bnd (gm_rd2 h1.2).1 rfl)
theorem gm_e_ldc2_w {x y z : UInt8} (h : b.data.toList.drop pc = x :: y :: z :: r) (hx : x.toNat = 20) : decode b pc = .ok (.ldc2_w (y.toNat * 256 + z.toNat), 3) := by
  have h1 := gm_rd1 h
  have h2 := h1.1
  rw [hx] at h2
  refine gm_dcd (show Decoder.instr pc b pc = .ok (.ldc2_w (y.toNat * 256 + z.toNat), pc + 3) from ?_)
  unfold Decoder.instr
  exact gm_bnd h2 (show (Reader.u2 >>= fun k => pure (Instr.ldc2_w k) : Decoder Instr) b (pc + 1) = _ from gm_bnd (gm_rd2 h1.2).1 rfl)
theorem gm_e_getstatic {x y z : UInt8} (h : b.data.toList.drop pc = x :: y :: z :: r) (hx : x.toNat = 178) : decode b pc = .ok (.getstatic (y.toNat * 256 + z.toNat), 3) := by
  have h1 := gm_rd1 h
  have h2 := h1.1
  rw [hx] at h2
  refine gm_dcd (show Decoder.instr pc b pc = .ok (.getstatic (y.toNat * 256 + z.toNat), pc + 3) from ?_)
  unfold Decoder.instr
  exact gm_bnd h2 (show (Reader.u2 >>= fun k => pure (Instr.getstatic k) : Decoder Instr) b (pc + 1) = _ from gm_bnd (gm_rd2 h1.2).1 rfl)
theorem gm_e_getfield {x y z : UInt8} (h : b.data.toList.drop pc = x :: y :: z :: r) (hx : x.toNat = 180) : decode b pc = .ok (.getfield (y.toNat * 256 + z.toNat), 3) := by
  have h1 := gm_rd1 h
  have h2 := h1.1
  rw [hx] at h2
  refine gm_dcd (show Decoder.instr pc b pc = .ok (.getfield (y.toNat * 256 + z.toNat), pc + 3) from ?_)
  unfold Decoder.instr
  exact gm_bnd h2 (show (Reader.u2 >>= fun k => pure (Instr.getfield k) : Decoder Instr) b (pc + 1) = _ from gm_bnd (gm_rd2 h1.2).1 rfl)
theorem gm_e_putfield {x y z : UInt8} (h : b.data.toList.drop pc = x :: y :: z :: r) (hx : x.toNat = 181) : decode b pc = .ok (.putfield (y.toNat * 256 + z.toNat), 3) := by
  have h1 := gm_rd1 h
  have h2 := h1.1
  rw [hx] at h2
  refine gm_dcd (show Decoder.instr pc b pc = .ok (.putfield (y.toNat * 256 + z.toNat), pc + 3) from ?_)
  unfold Decoder.instr
  exact gm_bnd h2 (show (Reader.u2 >>= fun k => pure (Instr.putfield k) : Decoder Instr) b (pc + 1) = _ from gm_bnd (gm_rd2 h1.2).1 rfl)
theorem gm_e_invokevirtual {x y z : UInt8} (h : b.data.toList.drop pc = x :: y :: z :: r) (hx : x.toNat = 182) : decode b pc = .ok (.invokevirtual (y.toNat * 256 + z.toNat), 3) := by
  have h1 := gm_rd1 h
  have h2 := h1.1
  rw [hx] at h2
  refine gm_dcd (show Decoder.instr pc b pc = .ok (.invokevirtual (y.toNat * 256 + z.toNat), pc + 3) from ?_)
  unfold Decoder.instr
  exact gm_bnd h2 (show (Reader.u2 >>= fun k => pure (Instr.invokevirtual k) : Decoder Instr) b (pc + 1) = _ from gm_bnd (gm_rd2 h1.2).1 rfl)
theorem gm_e_invokespecial {x y z : UInt8} (h : b.data.toList.drop pc = x :: y :: z :: r) (hx : x.toNat = 183) : decode b pc = .ok (.invokespecial (y.toNat * 256 + z.toNat), 3) := by
  have h1 := gm_rd1 h
  have h2 := h1.1
  rw [hx] at h2
  refine gm_dcd (show Decoder.instr pc b pc = .ok (.invokespecial (y.toNat * 256 + z.toNat), pc + 3) from ?_)
  unfold Decoder.instr
  exact gm_bnd h2 (show (Reader.u2 >>= fun k => pure (Instr.invokespecial k) : Decoder Instr) b (pc + 1) = _ from gm_bnd (gm_rd2 h1.2).1 rfl)
theorem gm_e_invokestatic {x y z : UInt8} (h : b.data.toList.drop pc = x :: y :: z :: r) (hx : x.toNat = 184) : decode b pc = .ok (.invokestatic (y.toNat * 256 + z.toNat), 3) := by
  have h1 := gm_rd1 h
  have h2 := h1.1
  rw [hx] at h2
  refine gm_dcd (show Decoder.instr pc b pc = .ok (.invokestatic (y.toNat * 256 + z.toNat), pc + 3) from ?_)
  unfold Decoder.instr
  exact gm_bnd h2 (show (Reader.u2 >>= fun k => pure (Instr.invokestatic k) : Decoder Instr) b (pc + 1) = _ from gm_bnd (gm_rd2 h1.2).1 rfl)
theorem gm_e_new {x y z : UInt8} (h : b.data.toList.drop pc = x :: y :: z :: r) (hx : x.toNat = 187) : decode b pc = .ok (.new (y.toNat * 256 + z.toNat), 3) := by
  have h1 := gm_rd1 h
  have h2 := h1.1
  rw [hx] at h2
  refine gm_dcd (show Decoder.instr pc b pc = .ok (.new (y.toNat * 256 + z.toNat), pc + 3) from ?_)
  unfold Decoder.instr
  exact gm_bnd h2 (show (Reader.u2 >>= fun k => pure (Instr.new k) : Decoder Instr) b (pc + 1) = _ from gm_bnd (gm_rd2 h1.2).1 rfl)
theorem gm_e_anewarray {x y z : UInt8} (h : b.data.toList.drop pc = x :: y :: z :: r) (hx : x.toNat = 189) : decode b pc = .ok (.anewarray (y.toNat * 256 + z.toNat), 3) := by
  have h1 := gm_rd1 h
  have h2 := h1.1
  rw [hx] at h2
  refine gm_dcd (show Decoder.instr pc b pc = .ok (.anewarray (y.toNat * 256 + z.toNat), pc + 3) from ?_)
  unfold Decoder.instr
  exact gm_bnd h2 (show (Reader.u2 >>= fun k => pure (Instr.anewarray k) : Decoder Instr) b (pc + 1) = _ from gm_bnd (gm_rd2 h1.2).1 rfl)
theorem gm_e_checkcast {x y z : UInt8} (h : b.data.toList.drop pc = x :: y :: z :: r) (hx : x.toNat = 192) : decode b pc = .ok (.checkcast (y.toNat * 256 + z.toNat), 3) := by
  have h1 := gm_rd1 h
  have h2 := h1.1
  rw [hx] at h2
  refine gm_dcd (show Decoder.instr pc b pc = .ok (.checkcast (y.toNat * 256 + z.toNat), pc + 3) from ?_)
  unfold Decoder.instr
  exact gm_bnd h2 (show (Reader.u2 >>= fun k => pure (Instr.checkcast k) : Decoder Instr) b (pc + 1) = _ from gm_bnd (gm_rd2 h1.2).1 rfl)
theorem gm_e_goto {x y z : UInt8} (h : b.data.toList.drop pc = x :: y :: z :: r) (hx : x.toNat = 167) : decode b pc = .ok (.goto (Reader.signed 16 (y.toNat * 256 + z.toNat)), 3) := by
  have h1 := gm_rd1 h
  have h2 := h1.1
  rw [hx] at h2
  refine gm_dcd (show Decoder.instr pc b pc = .ok (.goto (Reader.signed 16 (y.toNat * 256 + z.toNat)), pc + 3) from ?_)
  unfold Decoder.instr
  exact gm_bnd h2 (show (Reader.s2 >>= fun k => pure (Instr.goto k) : Decoder Instr) b (pc + 1) = _ from gm_bnd (gm_rds2 h1.2) rfl)
theorem gm_e_ifnull {x y z : UInt8} (h : b.data.toList.drop pc = x :: y :: z :: r) (hx : x.toNat = 198) : decode b pc = .ok (.ifnull (Reader.signed 16 (y.toNat * 256 + z.toNat)), 3) := by
  have h1 := gm_rd1 h
  have h2 := h1.1
  rw [hx] at h2
  refine gm_dcd (show Decoder.instr pc b pc = .ok (.ifnull (Reader.signed 16 (y.toNat * 256 + z.toNat)), pc + 3) from ?_)
  unfold Decoder.instr
  exact gm_bnd h2 (show (Reader.s2 >>= fun k => pure (Instr.ifnull k) : Decoder Instr) b (pc + 1) = _ from gm_bnd (gm_rds2 h1.2) rfl)
theorem gm_e_ifnonnull {x y z : UInt8} (h : b.data.toList.drop pc = x :: y :: z :: r) (hx : x.toNat = 199) : decode b pc = .ok (.ifnonnull (Reader.signed 16 (y.toNat * 256 + z.toNat)), 3) := by
  have h1 := gm_rd1 h
  have h2 := h1.1
  rw [hx] at h2
  refine gm_dcd (show Decoder.instr pc b pc = .ok (.ifnonnull (Reader.signed 16 (y.toNat * 256 + z.toNat)), pc + 3) from ?_)
  unfold Decoder.instr
  exact gm_bnd h2 (show (Reader.s2 >>= fun k => pure (Instr.ifnonnull k) : Decoder Instr) b (pc + 1) = _ from gm_bnd (gm_rds2 h1.2) rfl)
theorem gm_e_ifCond_eq {x y z : UInt8} (h : b.data.toList.drop pc = x :: y :: z :: r) (hx : x.toNat = 153) : decode b pc = .ok (.ifCond .eq (Reader.signed 16 (y.toNat * 256 + z.toNat)), 3) := by
  have h1 := gm_rd1 h
  have h2 := h1.1
  rw [hx] at h2
  refine gm_dcd (show Decoder.instr pc b pc = .ok (.ifCond .eq (Reader.signed 16 (y.toNat * 256 + z.toNat)), pc + 3) from ?_)
  unfold Decoder.instr
  exact gm_bnd h2 (show (Reader.s2 >>= fun k => pure (Instr.ifCond .eq k) : Decoder Instr) b (pc + 1) = _ from gm_bnd (gm_rds2 h1.2) rfl)
theorem gm_e_if_icmp_eq {x y z : UInt8} (h : b.data.toList.drop pc = x :: y :: z :: r) (hx : x.toNat = 159) : decode b pc = .ok (.if_icmp .eq (Reader.signed 16 (y.toNat * 256 + z.toNat)), 3) := by
  have h1 := gm_rd1 h
  have h2 := h1.1
  rw [hx] at h2
  refine gm_dcd (show Decoder.instr pc b pc = .ok (.if_icmp .eq (Reader.signed 16 (y.toNat * 256 + z.toNat)), pc + 3) from ?_)
  unfold Decoder.instr
  exact gm_bnd h2 (show (Reader.s2 >>= fun k => pure (Instr.if_icmp .eq k) : Decoder Instr) b (pc + 1) = _ from gm_bnd (gm_rds2 h1.2) rfl)
theorem gm_e_ifCond_ne {x y z : UInt8} (h : b.data.toList.drop pc = x :: y :: z :: r) (hx : x.toNat = 154) : decode b pc = .ok (.ifCond .ne (Reader.signed 16 (y.toNat * 256 + z.toNat)), 3) := by
  have h1 := gm_rd1 h
  have h2 := h1.1
  rw [hx] at h2
  refine gm_dcd (show Decoder.instr pc b pc = .ok (.ifCond .ne (Reader.signed 16 (y.toNat * 256 + z.toNat)), pc + 3) from ?_)
  unfold Decoder.instr
  exact gm_bnd h2 (show (Reader.s2 >>= fun k => pure (Instr.ifCond .ne k) : Decoder Instr) b (pc + 1) = _ from gm_bnd (gm_rds2 h1.2) rfl)
theorem gm_e_if_icmp_ne {x y z : UInt8} (h : b.data.toList.drop pc = x :: y :: z :: r) (hx : x.toNat = 160) : decode b pc = .ok (.if_icmp .ne (Reader.signed 16 (y.toNat * 256 + z.toNat)), 3) := by
  have h1 := gm_rd1 h
  have h2 := h1.1
  rw [hx] at h2
  refine gm_dcd (show Decoder.instr pc b pc = .ok (.if_icmp .ne (Reader.signed 16 (y.toNat * 256 + z.toNat)), pc + 3) from ?_)
  unfold Decoder.instr
  exact gm_bnd h2 (show (Reader.s2 >>= fun k => pure (Instr.if_icmp .ne k) : Decoder Instr) b (pc + 1) = _ from gm_bnd (gm_rds2 h1.2) rfl)
theorem gm_e_ifCond_lt {x y z : UInt8} (h : b.data.toList.drop pc = x :: y :: z :: r) (hx : x.toNat = 155) : decode b pc = .ok (.ifCond .lt (Reader.signed 16 (y.toNat * 256 + z.toNat)), 3) := by
  have h1 := gm_rd1 h
  have h2 := h1.1
  rw [hx] at h2
  refine gm_dcd (show Decoder.instr pc b pc = .ok (.ifCond .lt (Reader.signed 16 (y.toNat * 256 + z.toNat)), pc + 3) from ?_)
  unfold Decoder.instr
  exact gm_bnd h2 (show (Reader.s2 >>= fun k => pure (Instr.ifCond .lt k) : Decoder Instr) b (pc + 1) = _ from gm_bnd (gm_rds2 h1.2) rfl)
theorem gm_e_if_icmp_lt {x y z : UInt8} (h : b.data.toList.drop pc = x :: y :: z :: r) (hx : x.toNat = 161) : decode b pc = .ok (.if_icmp .lt (Reader.signed 16 (y.toNat * 256 + z.toNat)), 3) := by
  have h1 := gm_rd1 h
  have h2 := h1.1
  rw [hx] at h2
  refine gm_dcd (show Decoder.instr pc b pc = .ok (.if_icmp .lt (Reader.signed 16 (y.toNat * 256 + z.toNat)), pc + 3) from ?_)
  unfold Decoder.instr
  exact gm_bnd h2 (show (Reader.s2 >>= fun k => pure (Instr.if_icmp .lt k) : Decoder Instr) b (pc + 1) = _ from gm_bnd (gm_rds2 h1.2) rfl)
theorem gm_e_ifCond_ge {x y z : UInt8} (h : b.data.toList.drop pc = x :: y :: z :: r) (hx : x.toNat = 156) : decode b pc = .ok (.ifCond .ge (Reader.signed 16 (y.toNat * 256 + z.toNat)), 3) := by
  have h1 := gm_rd1 h
  have h2 := h1.1
  rw [hx] at h2
  refine gm_dcd (show Decoder.instr pc b pc = .ok (.ifCond .ge (Reader.signed 16 (y.toNat * 256 + z.toNat)), pc + 3) from ?_)
  unfold Decoder.instr
  exact gm_bnd h2 (show (Reader.s2 >>= fun k => pure (Instr.ifCond .ge k) : Decoder Instr) b (pc + 1) = _ from gm_bnd (gm_rds2 h1.2) rfl)
theorem gm_e_if_icmp_ge {x y z : UInt8} (h : b.data.toList.drop pc = x :: y :: z :: r) (hx : x.toNat = 162) : decode b pc = .ok (.if_icmp .ge (Reader.signed 16 (y.toNat * 256 + z.toNat)), 3) := by
  have h1 := gm_rd1 h
  have h2 := h1.1
  rw [hx] at h2
  refine gm_dcd (show Decoder.instr pc b pc = .ok (.if_icmp .ge (Reader.signed 16 (y.toNat * 256 + z.toNat)), pc + 3) from ?_)
  unfold Decoder.instr
  exact gm_bnd h2 (show (Reader.s2 >>= fun k => pure (Instr.if_icmp .ge k) : Decoder Instr) b (pc + 1) = _ from gm_bnd (gm_rds2 h1.2) rfl)
theorem gm_e_ifCond_gt {x y z : UInt8} (h : b.data.toList.drop pc = x :: y :: z :: r) (hx : x.toNat = 157) : decode b pc = .ok (.ifCond .gt (Reader.signed 16 (y.toNat * 256 + z.toNat)), 3) := by
  have h1 := gm_rd1 h
  have h2 := h1.1
  rw [hx] at h2
  refine gm_dcd (show Decoder.instr pc b pc = .ok (.ifCond .gt (Reader.signed 16 (y.toNat * 256 + z.toNat)), pc + 3) from ?_)
  unfold Decoder.instr
  exact gm_bnd h2 (show (Reader.s2 >>= fun k => pure (Instr.ifCond .gt k) : Decoder Instr) b (pc + 1) = _ from gm_bnd (gm_rds2 h1.2) rfl)
theorem gm_e_if_icmp_gt {x y z : UInt8} (h : b.data.toList.drop pc = x :: y :: z :: r) (hx : x.toNat = 163) : decode b pc = .ok (.if_icmp .gt (Reader.signed 16 (y.toNat * 256 + z.toNat)), 3) := by
  have h1 := gm_rd1 h
  have h2 := h1.1
  rw [hx] at h2
  refine gm_dcd (show Decoder.instr pc b pc = .ok (.if_icmp .gt (Reader.signed 16 (y.toNat * 256 + z.toNat)), pc + 3) from ?_)
  unfold Decoder.instr
  exact gm_bnd h2 (show (Reader.s2 >>= fun k => pure (Instr.if_icmp .gt k) : Decoder Instr) b (pc + 1) = _ from gm_bnd (gm_rds2 h1.2) rfl)
theorem gm_e_ifCond_le {x y z : UInt8} (h : b.data.toList.drop pc = x :: y :: z :: r) (hx : x.toNat = 158) : decode b pc = .ok (.ifCond .le (Reader.signed 16 (y.toNat * 256 + z.toNat)), 3) := by
  have h1 := gm_rd1 h
  have h2 := h1.1
  rw [hx] at h2
  refine gm_dcd (show Decoder.instr pc b pc = .ok (.ifCond .le (Reader.signed 16 (y.toNat * 256 + z.toNat)), pc + 3) from ?_)
  unfold Decoder.instr
  exact gm_bnd h2 (show (Reader.s2 >>= fun k => pure (Instr.ifCond .le k) : Decoder Instr) b (pc + 1) = _ from gm_bnd (gm_rds2 h1.2) rfl)
theorem gm_e_if_icmp_le {x y z : UInt8} (h : b.data.toList.drop pc = x :: y :: z :: r) (hx : x.toNat = 164) : decode b pc = .ok (.if_icmp .le (Reader.signed 16 (y.toNat * 256 + z.toNat)), 3) := by
  have h1 := gm_rd1 h
  have h2 := h1.1
  rw [hx] at h2
  refine gm_dcd (show Decoder.instr pc b pc = .ok (.if_icmp .le (Reader.signed 16 (y.toNat * 256 + z.toNat)), pc + 3) from ?_)
  unfold Decoder.instr
  exact gm_bnd h2 (show (Reader.s2 >>= fun k => pure (Instr.if_icmp .le k) : Decoder Instr) b (pc + 1) = _ from gm_bnd (gm_rds2 h1.2) rfl)
theorem gm_e_iinc {x y z : UInt8} (h : b.data.toList.drop pc = x :: y :: z :: r) (hx : x.toNat = 132) : decode b pc = .ok (.iinc y.toNat (Reader.signed 8 z.toNat), 3) := by
  have h1 := gm_rd1 h
  have h2 := h1.1
  rw [hx] at h2
  refine gm_dcd (show Decoder.instr pc b pc = .ok (.iinc y.toNat (Reader.signed 8 z.toNat), pc + 3) from ?_)
  unfold Decoder.instr
  exact gm_bnd h2 (show (Reader.u1 >>= fun k => Reader.s1 >>= fun m => pure (Instr.iinc k m) : Decoder Instr) b (pc + 1) = _ from gm_bnd (gm_rd1 h1.2).1 (gm_bnd (gm_rds1 (gm_rd1 h1.2).2) rfl))
theorem gm_e_newarray_boolean {x y : UInt8} (h : b.data.toList.drop pc = x :: y :: r) (hx : x.toNat = 188) (hy : y.toNat = 4) : decode b pc = .ok (.newarray .boolean, 2) := by
  have h1 := gm_rd1 h
  have h2 := h1.1
  rw [hx] at h2
  have h3 := (gm_rd1 h1.2).1
  rw [hy] at h3
  refine gm_dcd (show Decoder.instr pc b pc = .ok (.newarray .boolean, pc + 2) from ?_)
  unfold Decoder.instr
  refine gm_bnd h2 (show Decoder.newarray pc b (pc + 1) = _ from ?_)
  unfold Decoder.newarray
  exact gm_bnd h3 rfl
theorem gm_e_newarray_char {x y : UInt8} (h : b.data.toList.drop pc = x :: y :: r) (hx : x.toNat = 188) (hy : y.toNat = 5) : decode b pc = .ok (.newarray .char, 2) := by
  have h1 := gm_rd1 h
  have h2 := h1.1
  rw [hx] at h2
  have h3 := (gm_rd1 h1.2).1
  rw [hy] at h3
  refine gm_dcd (show Decoder.instr pc b pc = .ok (.newarray .char, pc + 2) from ?_)
  unfold Decoder.instr
  refine gm_bnd h2 (show Decoder.newarray pc b (pc + 1) = _ from ?_)
  unfold Decoder.newarray
  exact gm_bnd h3 rfl
theorem gm_e_newarray_byte {x y : UInt8} (h : b.data.toList.drop pc = x :: y :: r) (hx : x.toNat = 188) (hy : y.toNat = 8) : decode b pc = .ok (.newarray .byte, 2) := by
  have h1 := gm_rd1 h
  have h2 := h1.1
  rw [hx] at h2
  have h3 := (gm_rd1 h1.2).1
  rw [hy] at h3
  refine gm_dcd (show Decoder.instr pc b pc = .ok (.newarray .byte, pc + 2) from ?_)
  unfold Decoder.instr
  refine gm_bnd h2 (show Decoder.newarray pc b (pc + 1) = _ from ?_)
  unfold Decoder.newarray
  exact gm_bnd h3 rfl
theorem gm_e_newarray_int {x y : UInt8} (h : b.data.toList.drop pc = x :: y :: r) (hx : x.toNat = 188) (hy : y.toNat = 10) : decode b pc = .ok (.newarray .int, 2) := by
  have h1 := gm_rd1 h
  have h2 := h1.1
  rw [hx] at h2
  have h3 := (gm_rd1 h1.2).1
  rw [hy] at h3
  refine gm_dcd (show Decoder.instr pc b pc = .ok (.newarray .int, pc + 2) from ?_)
  unfold Decoder.instr
  refine gm_bnd h2 (show Decoder.newarray pc b (pc + 1) = _ from ?_)
  unfold Decoder.newarray
  exact gm_bnd h3 rfl
theorem gm_e_newarray_long {x y : UInt8} (h : b.data.toList.drop pc = x :: y :: r) (hx : x.toNat = 188) (hy : y.toNat = 11) : decode b pc = .ok (.newarray .long, 2) := by
  have h1 := gm_rd1 h
  have h2 := h1.1
  rw [hx] at h2
  have h3 := (gm_rd1 h1.2).1
  rw [hy] at h3
  refine gm_dcd (show Decoder.instr pc b pc = .ok (.newarray .long, pc + 2) from ?_)
  unfold Decoder.instr
  refine gm_bnd h2 (show Decoder.newarray pc b (pc + 1) = _ from ?_)
  unfold Decoder.newarray
  exact gm_bnd h3 rfl
def gm_cdn : ClassFile.Cond → Nat
  | .eq => 0
  | .ne => 1
  | .lt => 2
  | .ge => 3
  | .gt => 4
  | .le => 5
def gm_atn : ArrayType → Nat
  | .int => 10
  | .byte => 8
  | .long => 11
  | .boolean => 4
  | .char => 5
  | _ => 0
/-- shape, opcode, numbers -/
def gm_pat : Instr → Nat × Nat × Int × Int
  | .iaload => (0, 46, 0, 0)
  | .laload => (0, 47, 0, 0)
  | .aaload => (0, 50, 0, 0)
  | .baload => (0, 51, 0, 0)
  | .iastore => (0, 79, 0, 0)
  | .lastore => (0, 80, 0, 0)
  | .aastore => (0, 83, 0, 0)
  | .bastore => (0, 84, 0, 0)
  | .pop => (0, 87, 0, 0)
  | .dup => (0, 89, 0, 0)
  | .dup2 => (0, 92, 0, 0)
  | .iadd => (0, 96, 0, 0)
  | .isub => (0, 100, 0, 0)
  | .imul => (0, 104, 0, 0)
  | .idiv => (0, 108, 0, 0)
  | .irem => (0, 112, 0, 0)
  | .ineg => (0, 116, 0, 0)
  | .ishl => (0, 120, 0, 0)
  | .lshl => (0, 121, 0, 0)
  | .ishr => (0, 122, 0, 0)
  | .iushr => (0, 124, 0, 0)
  | .lushr => (0, 125, 0, 0)
  | .iand => (0, 126, 0, 0)
  | .land => (0, 127, 0, 0)
  | .ior => (0, 128, 0, 0)
  | .lor => (0, 129, 0, 0)
  | .ixor => (0, 130, 0, 0)
  | .lxor => (0, 131, 0, 0)
  | .i2l => (0, 133, 0, 0)
  | .l2i => (0, 136, 0, 0)
  | .i2b => (0, 145, 0, 0)
  | .i2c => (0, 146, 0, 0)
  | .lcmp => (0, 148, 0, 0)
  | .ireturn => (0, 172, 0, 0)
  | .areturn => (0, 176, 0, 0)
  | .return_ => (0, 177, 0, 0)
  | .arraylength => (0, 190, 0, 0)
  | .athrow => (0, 191, 0, 0)
  | .aconst_null => (0, 1, 0, 0)
  | .iload_n q => (0, 26 + q.val, 0, 0)
  | .lload_n q => (0, 30 + q.val, 0, 0)
  | .aload_n q => (0, 42 + q.val, 0, 0)
  | .istore_n q => (0, 59 + q.val, 0, 0)
  | .lstore_n q => (0, 63 + q.val, 0, 0)
  | .astore_n q => (0, 75 + q.val, 0, 0)
  | .iconst z => if -1 ≤ z ∧ z ≤ 5 then (0, (z + 3).toNat, 0, 0) else (9, 0, 0, 0)
  | .lconst q => (0, 9 + q.val, 0, 0)
  | .ldc q => (1, 18, q, 0)
  | .iload q => (1, 21, q, 0)
  | .lload q => (1, 22, q, 0)
  | .aload q => (1, 25, q, 0)
  | .istore q => (1, 54, q, 0)
  | .lstore q => (1, 55, q, 0)
  | .astore q => (1, 58, q, 0)
  | .bipush z => (2, 16, z, 0)
  | .sipush z => (4, 17, z, 0)
  | .ldc_w q => (3, 19, q, 0)
  | .ldc2_w q => (3, 20, q, 0)
  | .getstatic q => (3, 178, q, 0)
  | .getfield q => (3, 180, q, 0)
  | .putfield q => (3, 181, q, 0)
  | .invokevirtual q => (3, 182, q, 0)
  | .invokespecial q => (3, 183, q, 0)
  | .invokestatic q => (3, 184, q, 0)
  | .new q => (3, 187, q, 0)
  | .anewarray q => (3, 189, q, 0)
  | .checkcast q => (3, 192, q, 0)
  | .goto z => (4, 167, z, 0)
  | .ifnull z => (4, 198, z, 0)
  | .ifnonnull z => (4, 199, z, 0)
  | .ifCond c z => (4, 153 + gm_cdn c, z, 0)
  | .if_icmp c z => (4, 159 + gm_cdn c, z, 0)
  | .iinc q z => (5, 132, q, z)
  | .newarray t => if gm_atn t = 0 then (9, 0, 0, 0) else (1, 188, gm_atn t, 0)
  | _ => (9, 0, 0, 0)
theorem gm_fit_ok {pc : Nat} {i : Instr} (hl : b.data.toList.drop pc = l) (h : gm_fit (gm_pat i) l = some (n, r)) : decode b pc = .ok (i, n) ∧ n = gm_len i ∧ b.data.toList.drop (pc + n) = r := by
  subst hl
  have h9 : ∀ {q : Nat × Nat × Int × Int}, q = (9, 0, 0, 0) → gm_fit q (b.data.toList.drop pc) = some (n, r) → False := by
    intro q e hh
    subst e
    cases hh
  cases i with
  | iaload =>
    obtain ⟨x, e, hx, rfl⟩ := gm_g0 h
    exact ⟨gm_e_iaload e hx, rfl, (gm_rd1 e).2⟩
  | laload =>
    obtain ⟨x, e, hx, rfl⟩ := gm_g0 h
    exact ⟨gm_e_laload e hx, rfl, (gm_rd1 e).2⟩
  | aaload =>
    obtain ⟨x, e, hx, rfl⟩ := gm_g0 h
    exact ⟨gm_e_aaload e hx, rfl, (gm_rd1 e).2⟩
  | baload =>
    obtain ⟨x, e, hx, rfl⟩ := gm_g0 h
    exact ⟨gm_e_baload e hx, rfl, (gm_rd1 e).2⟩
  | iastore =>
    obtain ⟨x, e, hx, rfl⟩ := gm_g0 h
    exact ⟨gm_e_iastore e hx, rfl, (gm_rd1 e).2⟩
  | lastore =>
    obtain ⟨x, e, hx, rfl⟩ := gm_g0 h
    exact ⟨gm_e_lastore e hx, rfl, (gm_rd1 e).2⟩
  | aastore =>
    obtain ⟨x, e, hx, rfl⟩ := gm_g0 h
    exact ⟨gm_e_aastore e hx, rfl, (gm_rd1 e).2⟩
  | bastore =>
    obtain ⟨x, e, hx, rfl⟩ := gm_g0 h
    exact ⟨gm_e_bastore e hx, rfl, (gm_rd1 e).2⟩
  | pop =>
    obtain ⟨x, e, hx, rfl⟩ := gm_g0 h
    exact ⟨gm_e_pop e hx, rfl, (gm_rd1 e).2⟩
  | dup =>
    obtain ⟨x, e, hx, rfl⟩ := gm_g0 h
    exact ⟨gm_e_dup e hx, rfl, (gm_rd1 e).2⟩
  | dup2 =>
    obtain ⟨x, e, hx, rfl⟩ := gm_g0 h
    exact ⟨gm_e_dup2 e hx, rfl, (gm_rd1 e).2⟩
  | iadd =>
    obtain ⟨x, e, hx, rfl⟩ := gm_g0 h
    exact ⟨gm_e_iadd e hx, rfl, (gm_rd1 e).2⟩
  | isub =>
    obtain ⟨x, e, hx, rfl⟩ := gm_g0 h
    exact ⟨gm_e_isub e hx, rfl, (gm_rd1 e).2⟩
  | imul =>
    obtain ⟨x, e, hx, rfl⟩ := gm_g0 h
    exact ⟨gm_e_imul e hx, rfl, (gm_rd1 e).2⟩
  | idiv =>
    obtain ⟨x, e, hx, rfl⟩ := gm_g0 h
    exact ⟨gm_e_idiv e hx, rfl, (gm_rd1 e).2⟩
  | irem =>
    obtain ⟨x, e, hx, rfl⟩ := gm_g0 h
    exact ⟨gm_e_irem e hx, rfl, (gm_rd1 e).2⟩
  | ineg =>
    obtain ⟨x, e, hx, rfl⟩ := gm_g0 h
    exact ⟨gm_e_ineg e hx, rfl, (gm_rd1 e).2⟩
  | ishl =>
    obtain ⟨x, e, hx, rfl⟩ := gm_g0 h
    exact ⟨gm_e_ishl e hx, rfl, (gm_rd1 e).2⟩
  | lshl =>
    obtain ⟨x, e, hx, rfl⟩ := gm_g0 h
    exact ⟨gm_e_lshl e hx, rfl, (gm_rd1 e).2⟩
  | ishr =>
    obtain ⟨x, e, hx, rfl⟩ := gm_g0 h
    exact ⟨gm_e_ishr e hx, rfl, (gm_rd1 e).2⟩
  | iushr =>
    obtain ⟨x, e, hx, rfl⟩ := gm_g0 h
    exact ⟨gm_e_iushr e hx, rfl, (gm_rd1 e).2⟩
  | lushr =>
    obtain ⟨x, e, hx, rfl⟩ := gm_g0 h
    exact ⟨gm_e_lushr e hx, rfl, (gm_rd1 e).2⟩
  | iand =>
    obtain ⟨x, e, hx, rfl⟩ := gm_g0 h
    exact ⟨gm_e_iand e hx, rfl, (gm_rd1 e).2⟩
  | land =>
    obtain ⟨x, e, hx, rfl⟩ := gm_g0 h
    exact ⟨gm_e_land e hx, rfl, (gm_rd1 e).2⟩
  | ior =>
    obtain ⟨x, e, hx, rfl⟩ := gm_g0 h
    exact ⟨gm_e_ior e hx, rfl, (gm_rd1 e).2⟩
  | lor =>
    obtain ⟨x, e, hx, rfl⟩ := gm_g0 h
    exact ⟨gm_e_lor e hx, rfl, (gm_rd1 e).2⟩
  | ixor =>
    obtain ⟨x, e, hx, rfl⟩ := gm_g0 h
    exact ⟨gm_e_ixor e hx, rfl, (gm_rd1 e).2⟩
  | lxor =>
    obtain ⟨x, e, hx, rfl⟩ := gm_g0 h
    exact ⟨gm_e_lxor e hx, rfl, (gm_rd1 e).2⟩
  | i2l =>
    obtain ⟨x, e, hx, rfl⟩ := gm_g0 h
    exact ⟨gm_e_i2l e hx, rfl, (gm_rd1 e).2⟩
  | l2i =>
    obtain ⟨x, e, hx, rfl⟩ := gm_g0 h
    exact ⟨gm_e_l2i e hx, rfl, (gm_rd1 e).2⟩
  | i2b =>
    obtain ⟨x, e, hx, rfl⟩ := gm_g0 h
    exact ⟨gm_e_i2b e hx, rfl, (gm_rd1 e).2⟩
  | i2c =>
    obtain ⟨x, e, hx, rfl⟩ := gm_g0 h
    exact ⟨gm_e_i2c e hx, rfl, (gm_rd1 e).2⟩
  | lcmp =>
    obtain ⟨x, e, hx, rfl⟩ := gm_g0 h
    exact ⟨gm_e_lcmp e hx, rfl, (gm_rd1 e).2⟩
  | ireturn =>
    obtain ⟨x, e, hx, rfl⟩ := gm_g0 h
    exact ⟨gm_e_ireturn e hx, rfl, (gm_rd1 e).2⟩
  | areturn =>
    obtain ⟨x, e, hx, rfl⟩ := gm_g0 h
    exact ⟨gm_e_areturn e hx, rfl, (gm_rd1 e).2⟩
  | return_ =>
    obtain ⟨x, e, hx, rfl⟩ := gm_g0 h
    exact ⟨gm_e_return_ e hx, rfl, (gm_rd1 e).2⟩
  | arraylength =>
    obtain ⟨x, e, hx, rfl⟩ := gm_g0 h
    exact ⟨gm_e_arraylength e hx, rfl, (gm_rd1 e).2⟩
  | athrow =>
    obtain ⟨x, e, hx, rfl⟩ := gm_g0 h
    exact ⟨gm_e_athrow e hx, rfl, (gm_rd1 e).2⟩
  | aconst_null =>
    obtain ⟨x, e, hx, rfl⟩ := gm_g0 h
    exact ⟨gm_e_aconst_null e hx, rfl, (gm_rd1 e).2⟩
  | iload_n q =>
    obtain ⟨x, e, hx, rfl⟩ := gm_g0 h
    match q, hx with
    | 0, hx => exact ⟨gm_e_iload_n0 e hx, rfl, (gm_rd1 e).2⟩
    | 1, hx => exact ⟨gm_e_iload_n1 e hx, rfl, (gm_rd1 e).2⟩
    | 2, hx => exact ⟨gm_e_iload_n2 e hx, rfl, (gm_rd1 e).2⟩
    | 3, hx => exact ⟨gm_e_iload_n3 e hx, rfl, (gm_rd1 e).2⟩
  | lload_n q =>
    obtain ⟨x, e, hx, rfl⟩ := gm_g0 h
    match q, hx with
    | 0, hx => exact ⟨gm_e_lload_n0 e hx, rfl, (gm_rd1 e).2⟩
    | 1, hx => exact ⟨gm_e_lload_n1 e hx, rfl, (gm_rd1 e).2⟩
    | 2, hx => exact ⟨gm_e_lload_n2 e hx, rfl, (gm_rd1 e).2⟩
    | 3, hx => exact ⟨gm_e_lload_n3 e hx, rfl, (gm_rd1 e).2⟩
  | aload_n q =>
    obtain ⟨x, e, hx, rfl⟩ := gm_g0 h
    match q, hx with
    | 0, hx => exact ⟨gm_e_aload_n0 e hx, rfl, (gm_rd1 e).2⟩
    | 1, hx => exact ⟨gm_e_aload_n1 e hx, rfl, (gm_rd1 e).2⟩
    | 2, hx => exact ⟨gm_e_aload_n2 e hx, rfl, (gm_rd1 e).2⟩
    | 3, hx => exact ⟨gm_e_aload_n3 e hx, rfl, (gm_rd1 e).2⟩
  | istore_n q =>
    obtain ⟨x, e, hx, rfl⟩ := gm_g0 h
    match q, hx with
    | 0, hx => exact ⟨gm_e_istore_n0 e hx, rfl, (gm_rd1 e).2⟩
    | 1, hx => exact ⟨gm_e_istore_n1 e hx, rfl, (gm_rd1 e).2⟩
    | 2, hx => exact ⟨gm_e_istore_n2 e hx, rfl, (gm_rd1 e).2⟩
    | 3, hx => exact ⟨gm_e_istore_n3 e hx, rfl, (gm_rd1 e).2⟩
  | lstore_n q =>
    obtain ⟨x, e, hx, rfl⟩ := gm_g0 h
    match q, hx with
    | 0, hx => exact ⟨gm_e_lstore_n0 e hx, rfl, (gm_rd1 e).2⟩
    | 1, hx => exact ⟨gm_e_lstore_n1 e hx, rfl, (gm_rd1 e).2⟩
    | 2, hx => exact ⟨gm_e_lstore_n2 e hx, rfl, (gm_rd1 e).2⟩
    | 3, hx => exact ⟨gm_e_lstore_n3 e hx, rfl, (gm_rd1 e).2⟩
  | astore_n q =>
    obtain ⟨x, e, hx, rfl⟩ := gm_g0 h
    match q, hx with
    | 0, hx => exact ⟨gm_e_astore_n0 e hx, rfl, (gm_rd1 e).2⟩
    | 1, hx => exact ⟨gm_e_astore_n1 e hx, rfl, (gm_rd1 e).2⟩
    | 2, hx => exact ⟨gm_e_astore_n2 e hx, rfl, (gm_rd1 e).2⟩
    | 3, hx => exact ⟨gm_e_astore_n3 e hx, rfl, (gm_rd1 e).2⟩
  | iconst z =>
    by_cases hz : -1 ≤ z ∧ z ≤ 5
    · have h : gm_fit (if -1 ≤ z ∧ z ≤ 5 then (0, (z + 3).toNat, 0, 0) else (9, 0, 0, 0)) (b.data.toList.drop pc) = some (n, r) := h
      rw [if_pos hz] at h
      obtain ⟨x, e, hx, rfl⟩ := gm_g0 h
      rcases (by omega : z = -1 ∨ z = 0 ∨ z = 1 ∨ z = 2 ∨ z = 3 ∨ z = 4 ∨ z = 5) with rfl | rfl | rfl | rfl | rfl | rfl | rfl
      · exact ⟨gm_e_iconstm1 e hx, rfl, (gm_rd1 e).2⟩
      · exact ⟨gm_e_iconst0 e hx, rfl, (gm_rd1 e).2⟩
      · exact ⟨gm_e_iconst1 e hx, rfl, (gm_rd1 e).2⟩
      · exact ⟨gm_e_iconst2 e hx, rfl, (gm_rd1 e).2⟩
      · exact ⟨gm_e_iconst3 e hx, rfl, (gm_rd1 e).2⟩
      · exact ⟨gm_e_iconst4 e hx, rfl, (gm_rd1 e).2⟩
      · exact ⟨gm_e_iconst5 e hx, rfl, (gm_rd1 e).2⟩
    · have h : gm_fit (if -1 ≤ z ∧ z ≤ 5 then (0, (z + 3).toNat, 0, 0) else (9, 0, 0, 0)) (b.data.toList.drop pc) = some (n, r) := h
      rw [if_neg hz] at h
      exact (h9 rfl h).elim
  | lconst q =>
    obtain ⟨x, e, hx, rfl⟩ := gm_g0 h
    match q, hx with
    | 0, hx => exact ⟨gm_e_lconst0 e hx, rfl, (gm_rd1 e).2⟩
    | 1, hx => exact ⟨gm_e_lconst1 e hx, rfl, (gm_rd1 e).2⟩
  | ldc q =>
    have h : gm_f1 18 (q : Int) (b.data.toList.drop pc) = some (n, r) := h
    obtain ⟨x, y, e, hx, hy, rfl⟩ := gm_g1 h
    obtain rfl : y.toNat = q := by omega
    exact ⟨gm_e_ldc e hx, rfl, (gm_rd1 (gm_rd1 e).2).2⟩
  | iload q =>
    have h : gm_f1 21 (q : Int) (b.data.toList.drop pc) = some (n, r) := h
    obtain ⟨x, y, e, hx, hy, rfl⟩ := gm_g1 h
    obtain rfl : y.toNat = q := by omega
    exact ⟨gm_e_iload e hx, rfl, (gm_rd1 (gm_rd1 e).2).2⟩
  | lload q =>
    have h : gm_f1 22 (q : Int) (b.data.toList.drop pc) = some (n, r) := h
    obtain ⟨x, y, e, hx, hy, rfl⟩ := gm_g1 h
    obtain rfl : y.toNat = q := by omega
    exact ⟨gm_e_lload e hx, rfl, (gm_rd1 (gm_rd1 e).2).2⟩
  | aload q =>
    have h : gm_f1 25 (q : Int) (b.data.toList.drop pc) = some (n, r) := h
    obtain ⟨x, y, e, hx, hy, rfl⟩ := gm_g1 h
    obtain rfl : y.toNat = q := by omega
    exact ⟨gm_e_aload e hx, rfl, (gm_rd1 (gm_rd1 e).2).2⟩
  | istore q =>
    have h : gm_f1 54 (q : Int) (b.data.toList.drop pc) = some (n, r) := h
    obtain ⟨x, y, e, hx, hy, rfl⟩ := gm_g1 h
    obtain rfl : y.toNat = q := by omega
    exact ⟨gm_e_istore e hx, rfl, (gm_rd1 (gm_rd1 e).2).2⟩
  | lstore q =>
    have h : gm_f1 55 (q : Int) (b.data.toList.drop pc) = some (n, r) := h
    obtain ⟨x, y, e, hx, hy, rfl⟩ := gm_g1 h
    obtain rfl : y.toNat = q := by omega
    exact ⟨gm_e_lstore e hx, rfl, (gm_rd1 (gm_rd1 e).2).2⟩
  | astore q =>
    have h : gm_f1 58 (q : Int) (b.data.toList.drop pc) = some (n, r) := h
    obtain ⟨x, y, e, hx, hy, rfl⟩ := gm_g1 h
    obtain rfl : y.toNat = q := by omega
    exact ⟨gm_e_astore e hx, rfl, (gm_rd1 (gm_rd1 e).2).2⟩
  | bipush z =>
    have h : gm_f2 16 z (b.data.toList.drop pc) = some (n, r) := h
    obtain ⟨x, y, e, hx, rfl, rfl⟩ := gm_g2 h
    exact ⟨gm_e_bipush e hx, rfl, (gm_rd1 (gm_rd1 e).2).2⟩
  | sipush z =>
    have h : gm_f4 17 z (b.data.toList.drop pc) = some (n, r) := h
    obtain ⟨x, y, w, e, hx, rfl, rfl⟩ := gm_g4 h
    exact ⟨gm_e_sipush e hx, rfl, (gm_rd1 (gm_rd1 (gm_rd1 e).2).2).2⟩
  | ldc_w q =>
    have h : gm_f3 19 (q : Int) (b.data.toList.drop pc) = some (n, r) := h
    obtain ⟨x, y, z, e, hx, hy, rfl⟩ := gm_g3 h
    obtain rfl : y.toNat * 256 + z.toNat = q := by omega
    exact ⟨gm_e_ldc_w e hx, rfl, (gm_rd1 (gm_rd1 (gm_rd1 e).2).2).2⟩
  | ldc2_w q =>
    have h : gm_f3 20 (q : Int) (b.data.toList.drop pc) = some (n, r) := h
    obtain ⟨x, y, z, e, hx, hy, rfl⟩ := gm_g3 h
    obtain rfl : y.toNat * 256 + z.toNat = q := by omega
    exact ⟨gm_e_ldc2_w e hx, rfl, (gm_rd1 (gm_rd1 (gm_rd1 e).2).2).2⟩
  | getstatic q =>
    have h : gm_f3 178 (q : Int) (b.data.toList.drop pc) = some (n, r) := h
    obtain ⟨x, y, z, e, hx, hy, rfl⟩ := gm_g3 h
    obtain rfl : y.toNat * 256 + z.toNat = q := by omega
    exact ⟨gm_e_getstatic e hx, rfl, (gm_rd1 (gm_rd1 (gm_rd1 e).2).2).2⟩
  | getfield q =>
    have h : gm_f3 180 (q : Int) (b.data.toList.drop pc) = some (n, r) := h
    obtain ⟨x, y, z, e, hx, hy, rfl⟩ := gm_g3 h
    obtain rfl : y.toNat * 256 + z.toNat = q := by omega
    exact ⟨gm_e_getfield e hx, rfl, (gm_rd1 (gm_rd1 (gm_rd1 e).2).2).2⟩
  | putfield q =>
    have h : gm_f3 181 (q : Int) (b.data.toList.drop pc) = some (n, r) := h
    obtain ⟨x, y, z, e, hx, hy, rfl⟩ := gm_g3 h
    obtain rfl : y.toNat * 256 + z.toNat = q := by omega
    exact ⟨gm_e_putfield e hx, rfl, (gm_rd1 (gm_rd1 (gm_rd1 e).2).2).2⟩
  | invokevirtual q =>
    have h : gm_f3 182 (q : Int) (b.data.toList.drop pc) = some (n, r) := h
    obtain ⟨x, y, z, e, hx, hy, rfl⟩ := gm_g3 h
    obtain rfl : y.toNat * 256 + z.toNat = q := by omega
    exact ⟨gm_e_invokevirtual e hx, rfl, (gm_rd1 (gm_rd1 (gm_rd1 e).2).2).2⟩
  | invokespecial q =>
    have h : gm_f3 183 (q : Int) (b.data.toList.drop pc) = some (n, r) := h
    obtain ⟨x, y, z, e, hx, hy, rfl⟩ := gm_g3 h
    obtain rfl : y.toNat * 256 + z.toNat = q := by omega
    exact ⟨gm_e_invokespecial e hx, rfl, (gm_rd1 (gm_rd1 (gm_rd1 e).2).2).2⟩
  | invokestatic q =>
    have h : gm_f3 184 (q : Int) (b.data.toList.drop pc) = some (n, r) := h
    obtain ⟨x, y, z, e, hx, hy, rfl⟩ := gm_g3 h
    obtain rfl : y.toNat * 256 + z.toNat = q := by omega
    exact ⟨gm_e_invokestatic e hx, rfl, (gm_rd1 (gm_rd1 (gm_rd1 e).2).2).2⟩
  | new q =>
    have h : gm_f3 187 (q : Int) (b.data.toList.drop pc) = some (n, r) := h
    obtain ⟨x, y, z, e, hx, hy, rfl⟩ := gm_g3 h
    obtain rfl : y.toNat * 256 + z.toNat = q := by omega
    exact ⟨gm_e_new e hx, rfl, (gm_rd1 (gm_rd1 (gm_rd1 e).2).2).2⟩
  | anewarray q =>
    have h : gm_f3 189 (q : Int) (b.data.toList.drop pc) = some (n, r) := h
    obtain ⟨x, y, z, e, hx, hy, rfl⟩ := gm_g3 h
    obtain rfl : y.toNat * 256 + z.toNat = q := by omega
    exact ⟨gm_e_anewarray e hx, rfl, (gm_rd1 (gm_rd1 (gm_rd1 e).2).2).2⟩
  | checkcast q =>
    have h : gm_f3 192 (q : Int) (b.data.toList.drop pc) = some (n, r) := h
    obtain ⟨x, y, z, e, hx, hy, rfl⟩ := gm_g3 h
    obtain rfl : y.toNat * 256 + z.toNat = q := by omega
    exact ⟨gm_e_checkcast e hx, rfl, (gm_rd1 (gm_rd1 (gm_rd1 e).2).2).2⟩
  | goto z =>
    have h : gm_f4 167 z (b.data.toList.drop pc) = some (n, r) := h
    obtain ⟨x, y, w, e, hx, rfl, rfl⟩ := gm_g4 h
    exact ⟨gm_e_goto e hx, rfl, (gm_rd1 (gm_rd1 (gm_rd1 e).2).2).2⟩
  | ifnull z =>
    have h : gm_f4 198 z (b.data.toList.drop pc) = some (n, r) := h
    obtain ⟨x, y, w, e, hx, rfl, rfl⟩ := gm_g4 h
    exact ⟨gm_e_ifnull e hx, rfl, (gm_rd1 (gm_rd1 (gm_rd1 e).2).2).2⟩
  | ifnonnull z =>
    have h : gm_f4 199 z (b.data.toList.drop pc) = some (n, r) := h
    obtain ⟨x, y, w, e, hx, rfl, rfl⟩ := gm_g4 h
    exact ⟨gm_e_ifnonnull e hx, rfl, (gm_rd1 (gm_rd1 (gm_rd1 e).2).2).2⟩
  | ifCond c z =>
    have h : gm_f4 (153 + gm_cdn c) z (b.data.toList.drop pc) = some (n, r) := h
    obtain ⟨x, y, w, e, hx, rfl, rfl⟩ := gm_g4 h
    match c, hx with
    | .eq, hx => exact ⟨gm_e_ifCond_eq e hx, rfl, (gm_rd1 (gm_rd1 (gm_rd1 e).2).2).2⟩
    | .ne, hx => exact ⟨gm_e_ifCond_ne e hx, rfl, (gm_rd1 (gm_rd1 (gm_rd1 e).2).2).2⟩
    | .lt, hx => exact ⟨gm_e_ifCond_lt e hx, rfl, (gm_rd1 (gm_rd1 (gm_rd1 e).2).2).2⟩
    | .ge, hx => exact ⟨gm_e_ifCond_ge e hx, rfl, (gm_rd1 (gm_rd1 (gm_rd1 e).2).2).2⟩
    | .gt, hx => exact ⟨gm_e_ifCond_gt e hx, rfl, (gm_rd1 (gm_rd1 (gm_rd1 e).2).2).2⟩
    | .le, hx => exact ⟨gm_e_ifCond_le e hx, rfl, (gm_rd1 (gm_rd1 (gm_rd1 e).2).2).2⟩
  | if_icmp c z =>
    have h : gm_f4 (159 + gm_cdn c) z (b.data.toList.drop pc) = some (n, r) := h
    obtain ⟨x, y, w, e, hx, rfl, rfl⟩ := gm_g4 h
    match c, hx with
    | .eq, hx => exact ⟨gm_e_if_icmp_eq e hx, rfl, (gm_rd1 (gm_rd1 (gm_rd1 e).2).2).2⟩
    | .ne, hx => exact ⟨gm_e_if_icmp_ne e hx, rfl, (gm_rd1 (gm_rd1 (gm_rd1 e).2).2).2⟩
    | .lt, hx => exact ⟨gm_e_if_icmp_lt e hx, rfl, (gm_rd1 (gm_rd1 (gm_rd1 e).2).2).2⟩
    | .ge, hx => exact ⟨gm_e_if_icmp_ge e hx, rfl, (gm_rd1 (gm_rd1 (gm_rd1 e).2).2).2⟩
    | .gt, hx => exact ⟨gm_e_if_icmp_gt e hx, rfl, (gm_rd1 (gm_rd1 (gm_rd1 e).2).2).2⟩
    | .le, hx => exact ⟨gm_e_if_icmp_le e hx, rfl, (gm_rd1 (gm_rd1 (gm_rd1 e).2).2).2⟩
  | iinc q z =>
    have h : gm_f5 132 (q : Int) z (b.data.toList.drop pc) = some (n, r) := h
    obtain ⟨x, y, w, e, hx, hy, rfl, rfl⟩ := gm_g5 h
    obtain rfl : y.toNat = q := by omega
    exact ⟨gm_e_iinc e hx, rfl, (gm_rd1 (gm_rd1 (gm_rd1 e).2).2).2⟩
  | newarray t =>
    cases t with
    | int =>
      have h : gm_f1 188 ((10 : Nat) : Int) (b.data.toList.drop pc) = some (n, r) := h
      obtain ⟨x, y, e, hx, hy, rfl⟩ := gm_g1 h
      exact ⟨gm_e_newarray_int e hx (Int.ofNat.inj hy), rfl, (gm_rd1 (gm_rd1 e).2).2⟩
    | byte =>
      have h : gm_f1 188 ((8 : Nat) : Int) (b.data.toList.drop pc) = some (n, r) := h
      obtain ⟨x, y, e, hx, hy, rfl⟩ := gm_g1 h
      exact ⟨gm_e_newarray_byte e hx (Int.ofNat.inj hy), rfl, (gm_rd1 (gm_rd1 e).2).2⟩
    | long =>
      have h : gm_f1 188 ((11 : Nat) : Int) (b.data.toList.drop pc) = some (n, r) := h
      obtain ⟨x, y, e, hx, hy, rfl⟩ := gm_g1 h
      exact ⟨gm_e_newarray_long e hx (Int.ofNat.inj hy), rfl, (gm_rd1 (gm_rd1 e).2).2⟩
    | boolean =>
      have h : gm_f1 188 ((4 : Nat) : Int) (b.data.toList.drop pc) = some (n, r) := h
      obtain ⟨x, y, e, hx, hy, rfl⟩ := gm_g1 h
      exact ⟨gm_e_newarray_boolean e hx (Int.ofNat.inj hy), rfl, (gm_rd1 (gm_rd1 e).2).2⟩
    | char =>
      have h : gm_f1 188 ((5 : Nat) : Int) (b.data.toList.drop pc) = some (n, r) := h
      obtain ⟨x, y, e, hx, hy, rfl⟩ := gm_g1 h
      exact ⟨gm_e_newarray_char e hx (Int.ofNat.inj hy), rfl, (gm_rd1 (gm_rd1 e).2).2⟩
    | _ => exact (h9 rfl h).elim
  | _ => exact (h9 rfl h).elim
/-! the walk over a method's bytes -/
def gm_w1 (b : ByteArray) (q : Nat × Instr) (s : Nat × List UInt8) : Option (Nat × List UInt8) :=
  bif Nat.ble s.1 q.1 then (match gm_fit (gm_pat q.2) (s.2.drop (Nat.sub q.1 s.1)) with
    | some t => some (Nat.add q.1 t.1, t.2)
    | none => bif gm_ck1 b q then some (q.1, s.2.drop (Nat.sub q.1 s.1)) else none) else none
def gm_wr (b : ByteArray) : List (Nat × Instr) → Nat × List UInt8 → Option (Nat × List UInt8)
  | [], s => some s
  | q :: t, s => match gm_w1 b q s with
    | some u => gm_wr b t u
    | none => none
def gm_wkl (b : ByteArray) : List (List (Nat × Instr)) → Nat × List UInt8 → Bool
  | [], _ => true
  | t :: m, s => match gm_wr b t s with
    | some u => gm_wkl b m u
    | none => false
def gm_wk (b : ByteArray) (m : List (List (Nat × Instr))) : Bool := gm_wkl b m (0, b.data.toList)
theorem gm_w1_ok {q : Nat × Instr} {s u : Nat × List UInt8} (hs : b.data.toList.drop s.1 = s.2) (h : gm_w1 b q s = some u) : gm_ck1 b q = true ∧ b.data.toList.drop u.1 = u.2 := by
  unfold gm_w1 at h
  cases e : Nat.ble s.1 q.1 with
  | false => rw [e] at h; cases h
  | true =>
    rw [e] at h
    have hle := Nat.le_of_ble_eq_true e
    have hd : b.data.toList.drop q.1 = s.2.drop (Nat.sub q.1 s.1) := by
      rw [← hs, List.drop_drop]
      congr 1
      show q.1 = s.1 + (q.1 - s.1)
      omega
    have h : (match gm_fit (gm_pat q.2) (s.2.drop (Nat.sub q.1 s.1)) with
      | some t => some (Nat.add q.1 t.1, t.2)
      | none => bif gm_ck1 b q then some (q.1, s.2.drop (Nat.sub q.1 s.1)) else none) = some u := h
    cases e2 : gm_fit (gm_pat q.2) (s.2.drop (Nat.sub q.1 s.1)) with
    | some t =>
      rw [e2] at h
      have h := Option.some.inj h
      subst h
      obtain ⟨k1, k2, k3⟩ := gm_fit_ok (r := t.2) (n := t.1) hd e2
      refine ⟨?_, k3⟩
      unfold gm_ck1
      rw [k1]
      show (decide (q.2 = q.2) && (gm_sw q.2 || decide (t.1 = gm_len q.2))) = true
      rw [k2]
      simp
    | none =>
      rw [e2] at h
      cases e3 : gm_ck1 b q with
      | false => rw [e3] at h; cases h
      | true =>
        rw [e3] at h
        have h := Option.some.inj h
        subst h
        exact ⟨rfl, hd⟩
theorem gm_wr_ok : ∀ {t : List (Nat × Instr)} {s u : Nat × List UInt8}, b.data.toList.drop s.1 = s.2 → gm_wr b t s = some u → t.all (gm_ck1 b) = true ∧ b.data.toList.drop u.1 = u.2
  | [], s, u, hs, h => by cases h; exact ⟨rfl, hs⟩
  | q :: t, s, u, hs, h => by
    unfold gm_wr at h
    cases e : gm_w1 b q s with
    | none => rw [e] at h; cases h
    | some v =>
      rw [e] at h
      have h1 := gm_w1_ok hs e
      have h2 := gm_wr_ok h1.2 h
      exact ⟨by rw [List.all_cons, h1.1, h2.1]; rfl, h2.2⟩
theorem gm_wkl_ok : ∀ {m : List (List (Nat × Instr))} {s : Nat × List UInt8}, b.data.toList.drop s.1 = s.2 → gm_wkl b m s = true → gm_ckm b m = true
  | [], _, _, _ => rfl
  | t :: m, s, hs, h => by
    unfold gm_wkl at h
    cases e : gm_wr b t s with
    | none => rw [e] at h; cases h
    | some v =>
      rw [e] at h
      have h1 := gm_wr_ok hs e
      have h2 := gm_wkl_ok h1.2 h
      show (t.all (gm_ck1 b) && gm_ckm b m) = true
      rw [h1.1, h2]
      rfl
theorem gm_wk_ok {m : List (List (Nat × Instr))} (h : gm_wk b m = true) : gm_ckm b m = true := gm_wkl_ok (s := (0, b.data.toList)) rfl h
end DEC

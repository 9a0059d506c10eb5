abbrev dzB (c : ByteArray) (p : Nat) (l : List Nat) : Prop := ((c.data.toList.drop p).take l.length).map UInt8.toNat = l
def dzOf (c : ByteArray) (q : Nat) : Option Nat := (c.data.toList[q]?).map UInt8.toNat
theorem dzB_at {c : ByteArray} {p : Nat} {l x : List Nat} {j b : Nat} (k : Nat) (h : dzB c p l) (h2 : l.drop j = x) (hx : x[k]? = some b) : dzOf c (p + j + k) = some b := by
  have e : l[j + k]? = some b := by
    rw [← h2, List.getElem?_drop] at hx
    exact hx
  have h' : ((c.data.toList.drop p).take l.length).map UInt8.toNat = l := h
  have e2 : (((c.data.toList.drop p).take l.length).map UInt8.toNat)[j + k]? = some b := by
    rw [h']; exact e
  rw [List.getElem?_map, List.getElem?_take] at e2
  split at e2
  · rw [List.getElem?_drop] at e2
    unfold dzOf
    rw [Nat.add_assoc]
    exact e2
  · cases e2
theorem dz_u1 {c : ByteArray} {q b : Nat} (h : dzOf c q = some b) : (Reader.u1 : Reader DecodeError Nat) c q = .ok (b, q + 1) := by
  unfold dzOf at h
  cases hg : c.data.toList[q]? with
  | none => rw [hg] at h; cases h
  | some v =>
    rw [hg] at h
    have hb : v.toNat = b := Option.some.inj h
    obtain ⟨hl, hv⟩ := List.getElem?_eq_some_iff.mp hg
    have hq : q < c.size := by simpa using hl
    have hx : c[q] = v := hv
    show (do if h : q < c.size then do set (q + 1); Pure.pure c[q].toNat else MonadExcept.throw (HasTruncated.truncated q) : Reader DecodeError Nat) c q = _
    rw [dif_pos hq]
    show Except.ok (c[q].toNat, q + 1) = _
    rw [hx, hb]
theorem dz_bind {α β : Type} {r : Reader DecodeError α} {f : α → Reader DecodeError β} {c : ByteArray} {q q' : Nat} {a : α} (h : r c q = .ok (a, q')) : (r >>= f) c q = f a c q' := by
  have e : (r >>= f) c q = (match r c q with | .error e => Except.error e | .ok (a, s) => f a c s) := by
    show (do let (a, s) ← r c q; f a c s : Except DecodeError (β × Nat)) = _
    cases r c q <;> rfl
  rw [h] at e
  exact e
theorem dz_map {α β : Type} {r : Reader DecodeError α} {g : α → β} {c : ByteArray} {q q' : Nat} {a : α} (h : r c q = .ok (a, q')) : (g <$> r) c q = .ok (g a, q') := by
  have e : (g <$> r) c q = (match r c q with | .error e => Except.error e | .ok (a, s) => .ok (g a, s)) := by
    show (do let (a, s) ← r c q; .ok (g a, s) : Except DecodeError (β × Nat)) = _
    cases r c q <;> rfl
  rw [h] at e
  exact e
theorem dz_u2 {c : ByteArray} {q a b : Nat} (h : dzOf c q = some a) (h2 : dzOf c (q + 1) = some b) : (Reader.u2 : Reader DecodeError Nat) c q = .ok (a * 256 + b, q + 2) := by
  show (Reader.u1 >>= fun hi => Reader.u1 >>= fun lo => Pure.pure (hi * 256 + lo) : Reader DecodeError Nat) c q = _
  refine (dz_bind (dz_u1 h)).trans ?_
  exact (dz_bind (dz_u1 h2)).trans rfl
theorem dz_s1 {c : ByteArray} {q a : Nat} {v : Int} (h : dzOf c q = some a) (hv : Reader.signed 8 a = v) : (Reader.s1 : Reader DecodeError Int) c q = .ok (v, q + 1) := by
  rw [← hv]
  exact dz_map (dz_u1 h)
theorem dz_s2 {c : ByteArray} {q a b : Nat} {v : Int} (h : dzOf c q = some a) (h2 : dzOf c (q + 1) = some b) (hv : Reader.signed 16 (a * 256 + b) = v) : (Reader.s2 : Reader DecodeError Int) c q = .ok (v, q + 2) := by
  rw [← hv]
  exact dz_map (dz_u2 h h2)
theorem dz_fin {c : ByteArray} {q n : Nat} {i : Instr} (h : Decoder.instr q c q = .ok (i, q + n)) : decode c q = .ok (i, n) := by
  have e : decode c q = (match Decoder.instr q c q with | .error x => .error x | .ok (j, s) => .ok (j, s - q)) := by
    show (do let (j, s) ← Decoder.instr q c q; Pure.pure (j, s - q) : Except DecodeError (Instr × Nat)) = _
    cases Decoder.instr q c q <;> rfl
  rw [h] at e
  refine e.trans ?_
  show Except.ok (i, q + n - q) = _
  rw [Nat.add_sub_cancel_left]
def dzO (op : Nat) (k : Reader DecodeError Instr) : Prop := ∀ (c : ByteArray) (q : Nat), dzOf c q = some op → Decoder.instr q c q = k c (q + 1)
theorem dz0 {op : Nat} {i : Instr} (o : dzO op (Pure.pure i)) {c : ByteArray} {p : Nat} {l r : List Nat} (j : Nat) (h : dzB c p l) (h2 : l.drop j = op :: r) : decode c (p + j) = .ok (i, 1) := by
  refine dz_fin ((o c _ (dzB_at 0 h h2 rfl)).trans ?_)
  rfl
theorem dz1 {op : Nat} {f : Nat → Instr} (o : dzO op (Reader.u1 >>= fun v => Pure.pure (f v))) {c : ByteArray} {p : Nat} {l r : List Nat} (j a : Nat) (h : dzB c p l) (h2 : l.drop j = op :: a :: r) : decode c (p + j) = .ok (f a, 2) := by
  refine dz_fin ((o c _ (dzB_at 0 h h2 rfl)).trans ?_)
  refine (dz_bind (dz_u1 (dzB_at 1 h h2 rfl))).trans ?_
  rfl
theorem dz2 {op : Nat} {f : Nat → Instr} (o : dzO op (Reader.u2 >>= fun v => Pure.pure (f v))) {c : ByteArray} {p : Nat} {l r : List Nat} (j a b : Nat) (h : dzB c p l) (h2 : l.drop j = op :: a :: b :: r) : decode c (p + j) = .ok (f (a * 256 + b), 3) := by
  refine dz_fin ((o c _ (dzB_at 0 h h2 rfl)).trans ?_)
  refine (dz_bind (dz_u2 (dzB_at 1 h h2 rfl) (dzB_at 2 h h2 rfl))).trans ?_
  rfl
theorem dz3 {op : Nat} {f : Int → Instr} (o : dzO op (Reader.s1 >>= fun v => Pure.pure (f v))) {c : ByteArray} {p : Nat} {l r : List Nat} (j a : Nat) (v : Int) (hv : Reader.signed 8 a = v) (h : dzB c p l) (h2 : l.drop j = op :: a :: r) : decode c (p + j) = .ok (f v, 2) := by
  refine dz_fin ((o c _ (dzB_at 0 h h2 rfl)).trans ?_)
  refine (dz_bind (dz_s1 (dzB_at 1 h h2 rfl) hv)).trans ?_
  rfl
theorem dz4 {op : Nat} {f : Int → Instr} (o : dzO op (Reader.s2 >>= fun v => Pure.pure (f v))) {c : ByteArray} {p : Nat} {l r : List Nat} (j a b : Nat) (v : Int) (hv : Reader.signed 16 (a * 256 + b) = v) (h : dzB c p l) (h2 : l.drop j = op :: a :: b :: r) : decode c (p + j) = .ok (f v, 3) := by
  refine dz_fin ((o c _ (dzB_at 0 h h2 rfl)).trans ?_)
  refine (dz_bind (dz_s2 (dzB_at 1 h h2 rfl) (dzB_at 2 h h2 rfl) hv)).trans ?_
  rfl
theorem dz5 {op : Nat} {f : Nat → Int → Instr} (o : dzO op (Reader.u1 >>= fun u => Reader.s1 >>= fun v => Pure.pure (f u v))) {c : ByteArray} {p : Nat} {l r : List Nat} (j a b : Nat) (v : Int) (hv : Reader.signed 8 b = v) (h : dzB c p l) (h2 : l.drop j = op :: a :: b :: r) : decode c (p + j) = .ok (f a v, 3) := by
  refine dz_fin ((o c _ (dzB_at 0 h h2 rfl)).trans ?_)
  refine (dz_bind (dz_u1 (dzB_at 1 h h2 rfl))).trans ?_
  refine (dz_bind (dz_s1 (dzB_at 2 h h2 rfl) hv)).trans ?_
  rfl
set_option maxRecDepth 16384 in
theorem dzo2 : dzO 2 (Pure.pure (Instr.iconst (-1))) := fun c q h => by
  delta Decoder.instr
  exact (dz_bind (dz_u1 h)).trans rfl
set_option maxRecDepth 16384 in
theorem dzo3 : dzO 3 (Pure.pure (Instr.iconst 0)) := fun c q h => by
  delta Decoder.instr
  exact (dz_bind (dz_u1 h)).trans rfl
set_option maxRecDepth 16384 in
theorem dzo4 : dzO 4 (Pure.pure (Instr.iconst 1)) := fun c q h => by
  delta Decoder.instr
  exact (dz_bind (dz_u1 h)).trans rfl
set_option maxRecDepth 16384 in
theorem dzo5 : dzO 5 (Pure.pure (Instr.iconst 2)) := fun c q h => by
  delta Decoder.instr
  exact (dz_bind (dz_u1 h)).trans rfl
set_option maxRecDepth 16384 in
theorem dzo6 : dzO 6 (Pure.pure (Instr.iconst 3)) := fun c q h => by
  delta Decoder.instr
  exact (dz_bind (dz_u1 h)).trans rfl
set_option maxRecDepth 16384 in
theorem dzo7 : dzO 7 (Pure.pure (Instr.iconst 4)) := fun c q h => by
  delta Decoder.instr
  exact (dz_bind (dz_u1 h)).trans rfl
set_option maxRecDepth 16384 in
theorem dzo8 : dzO 8 (Pure.pure (Instr.iconst 5)) := fun c q h => by
  delta Decoder.instr
  exact (dz_bind (dz_u1 h)).trans rfl
set_option maxRecDepth 16384 in
theorem dzo9 : dzO 9 (Pure.pure (Instr.lconst 0)) := fun c q h => by
  delta Decoder.instr
  exact (dz_bind (dz_u1 h)).trans rfl
set_option maxRecDepth 16384 in
theorem dzo10 : dzO 10 (Pure.pure (Instr.lconst 1)) := fun c q h => by
  delta Decoder.instr
  exact (dz_bind (dz_u1 h)).trans rfl
set_option maxRecDepth 16384 in
theorem dzo16 : dzO 16 (Reader.s1 >>= fun v => Pure.pure (Instr.bipush v)) := fun c q h => by
  delta Decoder.instr
  exact (dz_bind (dz_u1 h)).trans rfl
set_option maxRecDepth 16384 in
theorem dzo17 : dzO 17 (Reader.s2 >>= fun v => Pure.pure (Instr.sipush v)) := fun c q h => by
  delta Decoder.instr
  exact (dz_bind (dz_u1 h)).trans rfl
set_option maxRecDepth 16384 in
theorem dzo18 : dzO 18 (Reader.u1 >>= fun v => Pure.pure (Instr.ldc v)) := fun c q h => by
  delta Decoder.instr
  exact (dz_bind (dz_u1 h)).trans rfl
set_option maxRecDepth 16384 in
theorem dzo19 : dzO 19 (Reader.u2 >>= fun v => Pure.pure (Instr.ldc_w v)) := fun c q h => by
  delta Decoder.instr
  exact (dz_bind (dz_u1 h)).trans rfl
set_option maxRecDepth 16384 in
theorem dzo20 : dzO 20 (Reader.u2 >>= fun v => Pure.pure (Instr.ldc2_w v)) := fun c q h => by
  delta Decoder.instr
  exact (dz_bind (dz_u1 h)).trans rfl
set_option maxRecDepth 16384 in
theorem dzo21 : dzO 21 (Reader.u1 >>= fun v => Pure.pure (Instr.iload v)) := fun c q h => by
  delta Decoder.instr
  exact (dz_bind (dz_u1 h)).trans rfl
set_option maxRecDepth 16384 in
theorem dzo22 : dzO 22 (Reader.u1 >>= fun v => Pure.pure (Instr.lload v)) := fun c q h => by
  delta Decoder.instr
  exact (dz_bind (dz_u1 h)).trans rfl
set_option maxRecDepth 16384 in
theorem dzo26 : dzO 26 (Pure.pure (Instr.iload_n 0)) := fun c q h => by
  delta Decoder.instr
  exact (dz_bind (dz_u1 h)).trans rfl
set_option maxRecDepth 16384 in
theorem dzo27 : dzO 27 (Pure.pure (Instr.iload_n 1)) := fun c q h => by
  delta Decoder.instr
  exact (dz_bind (dz_u1 h)).trans rfl
set_option maxRecDepth 16384 in
theorem dzo28 : dzO 28 (Pure.pure (Instr.iload_n 2)) := fun c q h => by
  delta Decoder.instr
  exact (dz_bind (dz_u1 h)).trans rfl
set_option maxRecDepth 16384 in
theorem dzo29 : dzO 29 (Pure.pure (Instr.iload_n 3)) := fun c q h => by
  delta Decoder.instr
  exact (dz_bind (dz_u1 h)).trans rfl
set_option maxRecDepth 16384 in
theorem dzo30 : dzO 30 (Pure.pure (Instr.lload_n 0)) := fun c q h => by
  delta Decoder.instr
  exact (dz_bind (dz_u1 h)).trans rfl
set_option maxRecDepth 16384 in
theorem dzo31 : dzO 31 (Pure.pure (Instr.lload_n 1)) := fun c q h => by
  delta Decoder.instr
  exact (dz_bind (dz_u1 h)).trans rfl
set_option maxRecDepth 16384 in
theorem dzo32 : dzO 32 (Pure.pure (Instr.lload_n 2)) := fun c q h => by
  delta Decoder.instr
  exact (dz_bind (dz_u1 h)).trans rfl
set_option maxRecDepth 16384 in
theorem dzo33 : dzO 33 (Pure.pure (Instr.lload_n 3)) := fun c q h => by
  delta Decoder.instr
  exact (dz_bind (dz_u1 h)).trans rfl
set_option maxRecDepth 16384 in
theorem dzo42 : dzO 42 (Pure.pure (Instr.aload_n 0)) := fun c q h => by
  delta Decoder.instr
  exact (dz_bind (dz_u1 h)).trans rfl
set_option maxRecDepth 16384 in
theorem dzo43 : dzO 43 (Pure.pure (Instr.aload_n 1)) := fun c q h => by
  delta Decoder.instr
  exact (dz_bind (dz_u1 h)).trans rfl
set_option maxRecDepth 16384 in
theorem dzo44 : dzO 44 (Pure.pure (Instr.aload_n 2)) := fun c q h => by
  delta Decoder.instr
  exact (dz_bind (dz_u1 h)).trans rfl
set_option maxRecDepth 16384 in
theorem dzo45 : dzO 45 (Pure.pure (Instr.aload_n 3)) := fun c q h => by
  delta Decoder.instr
  exact (dz_bind (dz_u1 h)).trans rfl
set_option maxRecDepth 16384 in
theorem dzo46 : dzO 46 (Pure.pure Instr.iaload) := fun c q h => by
  delta Decoder.instr
  exact (dz_bind (dz_u1 h)).trans rfl
set_option maxRecDepth 16384 in
theorem dzo47 : dzO 47 (Pure.pure Instr.laload) := fun c q h => by
  delta Decoder.instr
  exact (dz_bind (dz_u1 h)).trans rfl
set_option maxRecDepth 16384 in
theorem dzo50 : dzO 50 (Pure.pure Instr.aaload) := fun c q h => by
  delta Decoder.instr
  exact (dz_bind (dz_u1 h)).trans rfl
set_option maxRecDepth 16384 in
theorem dzo51 : dzO 51 (Pure.pure Instr.baload) := fun c q h => by
  delta Decoder.instr
  exact (dz_bind (dz_u1 h)).trans rfl
set_option maxRecDepth 16384 in
theorem dzo54 : dzO 54 (Reader.u1 >>= fun v => Pure.pure (Instr.istore v)) := fun c q h => by
  delta Decoder.instr
  exact (dz_bind (dz_u1 h)).trans rfl
set_option maxRecDepth 16384 in
theorem dzo55 : dzO 55 (Reader.u1 >>= fun v => Pure.pure (Instr.lstore v)) := fun c q h => by
  delta Decoder.instr
  exact (dz_bind (dz_u1 h)).trans rfl
set_option maxRecDepth 16384 in
theorem dzo60 : dzO 60 (Pure.pure (Instr.istore_n 1)) := fun c q h => by
  delta Decoder.instr
  exact (dz_bind (dz_u1 h)).trans rfl
set_option maxRecDepth 16384 in
theorem dzo61 : dzO 61 (Pure.pure (Instr.istore_n 2)) := fun c q h => by
  delta Decoder.instr
  exact (dz_bind (dz_u1 h)).trans rfl
set_option maxRecDepth 16384 in
theorem dzo62 : dzO 62 (Pure.pure (Instr.istore_n 3)) := fun c q h => by
  delta Decoder.instr
  exact (dz_bind (dz_u1 h)).trans rfl
set_option maxRecDepth 16384 in
theorem dzo64 : dzO 64 (Pure.pure (Instr.lstore_n 1)) := fun c q h => by
  delta Decoder.instr
  exact (dz_bind (dz_u1 h)).trans rfl
set_option maxRecDepth 16384 in
theorem dzo65 : dzO 65 (Pure.pure (Instr.lstore_n 2)) := fun c q h => by
  delta Decoder.instr
  exact (dz_bind (dz_u1 h)).trans rfl
set_option maxRecDepth 16384 in
theorem dzo66 : dzO 66 (Pure.pure (Instr.lstore_n 3)) := fun c q h => by
  delta Decoder.instr
  exact (dz_bind (dz_u1 h)).trans rfl
set_option maxRecDepth 16384 in
theorem dzo76 : dzO 76 (Pure.pure (Instr.astore_n 1)) := fun c q h => by
  delta Decoder.instr
  exact (dz_bind (dz_u1 h)).trans rfl
set_option maxRecDepth 16384 in
theorem dzo77 : dzO 77 (Pure.pure (Instr.astore_n 2)) := fun c q h => by
  delta Decoder.instr
  exact (dz_bind (dz_u1 h)).trans rfl
set_option maxRecDepth 16384 in
theorem dzo78 : dzO 78 (Pure.pure (Instr.astore_n 3)) := fun c q h => by
  delta Decoder.instr
  exact (dz_bind (dz_u1 h)).trans rfl
set_option maxRecDepth 16384 in
theorem dzo79 : dzO 79 (Pure.pure Instr.iastore) := fun c q h => by
  delta Decoder.instr
  exact (dz_bind (dz_u1 h)).trans rfl
set_option maxRecDepth 16384 in
theorem dzo80 : dzO 80 (Pure.pure Instr.lastore) := fun c q h => by
  delta Decoder.instr
  exact (dz_bind (dz_u1 h)).trans rfl
set_option maxRecDepth 16384 in
theorem dzo83 : dzO 83 (Pure.pure Instr.aastore) := fun c q h => by
  delta Decoder.instr
  exact (dz_bind (dz_u1 h)).trans rfl
set_option maxRecDepth 16384 in
theorem dzo84 : dzO 84 (Pure.pure Instr.bastore) := fun c q h => by
  delta Decoder.instr
  exact (dz_bind (dz_u1 h)).trans rfl
set_option maxRecDepth 16384 in
theorem dzo87 : dzO 87 (Pure.pure Instr.pop) := fun c q h => by
  delta Decoder.instr
  exact (dz_bind (dz_u1 h)).trans rfl
set_option maxRecDepth 16384 in
theorem dzo88 : dzO 88 (Pure.pure Instr.pop2) := fun c q h => by
  delta Decoder.instr
  exact (dz_bind (dz_u1 h)).trans rfl
set_option maxRecDepth 16384 in
theorem dzo89 : dzO 89 (Pure.pure Instr.dup) := fun c q h => by
  delta Decoder.instr
  exact (dz_bind (dz_u1 h)).trans rfl
set_option maxRecDepth 16384 in
theorem dzo92 : dzO 92 (Pure.pure Instr.dup2) := fun c q h => by
  delta Decoder.instr
  exact (dz_bind (dz_u1 h)).trans rfl
set_option maxRecDepth 16384 in
theorem dzo96 : dzO 96 (Pure.pure Instr.iadd) := fun c q h => by
  delta Decoder.instr
  exact (dz_bind (dz_u1 h)).trans rfl
set_option maxRecDepth 16384 in
theorem dzo97 : dzO 97 (Pure.pure Instr.ladd) := fun c q h => by
  delta Decoder.instr
  exact (dz_bind (dz_u1 h)).trans rfl
set_option maxRecDepth 16384 in
theorem dzo100 : dzO 100 (Pure.pure Instr.isub) := fun c q h => by
  delta Decoder.instr
  exact (dz_bind (dz_u1 h)).trans rfl
set_option maxRecDepth 16384 in
theorem dzo104 : dzO 104 (Pure.pure Instr.imul) := fun c q h => by
  delta Decoder.instr
  exact (dz_bind (dz_u1 h)).trans rfl
set_option maxRecDepth 16384 in
theorem dzo105 : dzO 105 (Pure.pure Instr.lmul) := fun c q h => by
  delta Decoder.instr
  exact (dz_bind (dz_u1 h)).trans rfl
set_option maxRecDepth 16384 in
theorem dzo108 : dzO 108 (Pure.pure Instr.idiv) := fun c q h => by
  delta Decoder.instr
  exact (dz_bind (dz_u1 h)).trans rfl
set_option maxRecDepth 16384 in
theorem dzo109 : dzO 109 (Pure.pure Instr.ldiv) := fun c q h => by
  delta Decoder.instr
  exact (dz_bind (dz_u1 h)).trans rfl
set_option maxRecDepth 16384 in
theorem dzo112 : dzO 112 (Pure.pure Instr.irem) := fun c q h => by
  delta Decoder.instr
  exact (dz_bind (dz_u1 h)).trans rfl
set_option maxRecDepth 16384 in
theorem dzo113 : dzO 113 (Pure.pure Instr.lrem) := fun c q h => by
  delta Decoder.instr
  exact (dz_bind (dz_u1 h)).trans rfl
set_option maxRecDepth 16384 in
theorem dzo116 : dzO 116 (Pure.pure Instr.ineg) := fun c q h => by
  delta Decoder.instr
  exact (dz_bind (dz_u1 h)).trans rfl
set_option maxRecDepth 16384 in
theorem dzo120 : dzO 120 (Pure.pure Instr.ishl) := fun c q h => by
  delta Decoder.instr
  exact (dz_bind (dz_u1 h)).trans rfl
set_option maxRecDepth 16384 in
theorem dzo122 : dzO 122 (Pure.pure Instr.ishr) := fun c q h => by
  delta Decoder.instr
  exact (dz_bind (dz_u1 h)).trans rfl
set_option maxRecDepth 16384 in
theorem dzo126 : dzO 126 (Pure.pure Instr.iand) := fun c q h => by
  delta Decoder.instr
  exact (dz_bind (dz_u1 h)).trans rfl
set_option maxRecDepth 16384 in
theorem dzo128 : dzO 128 (Pure.pure Instr.ior) := fun c q h => by
  delta Decoder.instr
  exact (dz_bind (dz_u1 h)).trans rfl
set_option maxRecDepth 16384 in
theorem dzo130 : dzO 130 (Pure.pure Instr.ixor) := fun c q h => by
  delta Decoder.instr
  exact (dz_bind (dz_u1 h)).trans rfl
set_option maxRecDepth 16384 in
theorem dzo132 : dzO 132 (Reader.u1 >>= fun u => Reader.s1 >>= fun v => Pure.pure (Instr.iinc u v)) := fun c q h => by
  delta Decoder.instr
  exact (dz_bind (dz_u1 h)).trans rfl
set_option maxRecDepth 16384 in
theorem dzo133 : dzO 133 (Pure.pure Instr.i2l) := fun c q h => by
  delta Decoder.instr
  exact (dz_bind (dz_u1 h)).trans rfl
set_option maxRecDepth 16384 in
theorem dzo136 : dzO 136 (Pure.pure Instr.l2i) := fun c q h => by
  delta Decoder.instr
  exact (dz_bind (dz_u1 h)).trans rfl
set_option maxRecDepth 16384 in
theorem dzo145 : dzO 145 (Pure.pure Instr.i2b) := fun c q h => by
  delta Decoder.instr
  exact (dz_bind (dz_u1 h)).trans rfl
set_option maxRecDepth 16384 in
theorem dzo146 : dzO 146 (Pure.pure Instr.i2c) := fun c q h => by
  delta Decoder.instr
  exact (dz_bind (dz_u1 h)).trans rfl
set_option maxRecDepth 16384 in
theorem dzo148 : dzO 148 (Pure.pure Instr.lcmp) := fun c q h => by
  delta Decoder.instr
  exact (dz_bind (dz_u1 h)).trans rfl
set_option maxRecDepth 16384 in
theorem dzo153 : dzO 153 (Reader.s2 >>= fun v => Pure.pure (Instr.ifCond .eq v)) := fun c q h => by
  delta Decoder.instr
  exact (dz_bind (dz_u1 h)).trans rfl
set_option maxRecDepth 16384 in
theorem dzo154 : dzO 154 (Reader.s2 >>= fun v => Pure.pure (Instr.ifCond .ne v)) := fun c q h => by
  delta Decoder.instr
  exact (dz_bind (dz_u1 h)).trans rfl
set_option maxRecDepth 16384 in
theorem dzo155 : dzO 155 (Reader.s2 >>= fun v => Pure.pure (Instr.ifCond .lt v)) := fun c q h => by
  delta Decoder.instr
  exact (dz_bind (dz_u1 h)).trans rfl
set_option maxRecDepth 16384 in
theorem dzo156 : dzO 156 (Reader.s2 >>= fun v => Pure.pure (Instr.ifCond .ge v)) := fun c q h => by
  delta Decoder.instr
  exact (dz_bind (dz_u1 h)).trans rfl
set_option maxRecDepth 16384 in
theorem dzo157 : dzO 157 (Reader.s2 >>= fun v => Pure.pure (Instr.ifCond .gt v)) := fun c q h => by
  delta Decoder.instr
  exact (dz_bind (dz_u1 h)).trans rfl
set_option maxRecDepth 16384 in
theorem dzo158 : dzO 158 (Reader.s2 >>= fun v => Pure.pure (Instr.ifCond .le v)) := fun c q h => by
  delta Decoder.instr
  exact (dz_bind (dz_u1 h)).trans rfl
set_option maxRecDepth 16384 in
theorem dzo159 : dzO 159 (Reader.s2 >>= fun v => Pure.pure (Instr.if_icmp .eq v)) := fun c q h => by
  delta Decoder.instr
  exact (dz_bind (dz_u1 h)).trans rfl
set_option maxRecDepth 16384 in
theorem dzo160 : dzO 160 (Reader.s2 >>= fun v => Pure.pure (Instr.if_icmp .ne v)) := fun c q h => by
  delta Decoder.instr
  exact (dz_bind (dz_u1 h)).trans rfl
set_option maxRecDepth 16384 in
theorem dzo161 : dzO 161 (Reader.s2 >>= fun v => Pure.pure (Instr.if_icmp .lt v)) := fun c q h => by
  delta Decoder.instr
  exact (dz_bind (dz_u1 h)).trans rfl
set_option maxRecDepth 16384 in
theorem dzo162 : dzO 162 (Reader.s2 >>= fun v => Pure.pure (Instr.if_icmp .ge v)) := fun c q h => by
  delta Decoder.instr
  exact (dz_bind (dz_u1 h)).trans rfl
set_option maxRecDepth 16384 in
theorem dzo163 : dzO 163 (Reader.s2 >>= fun v => Pure.pure (Instr.if_icmp .gt v)) := fun c q h => by
  delta Decoder.instr
  exact (dz_bind (dz_u1 h)).trans rfl
set_option maxRecDepth 16384 in
theorem dzo164 : dzO 164 (Reader.s2 >>= fun v => Pure.pure (Instr.if_icmp .le v)) := fun c q h => by
  delta Decoder.instr
  exact (dz_bind (dz_u1 h)).trans rfl
set_option maxRecDepth 16384 in
theorem dzo167 : dzO 167 (Reader.s2 >>= fun v => Pure.pure (Instr.goto v)) := fun c q h => by
  delta Decoder.instr
  exact (dz_bind (dz_u1 h)).trans rfl
set_option maxRecDepth 16384 in
theorem dzo172 : dzO 172 (Pure.pure Instr.ireturn) := fun c q h => by
  delta Decoder.instr
  exact (dz_bind (dz_u1 h)).trans rfl
set_option maxRecDepth 16384 in
theorem dzo173 : dzO 173 (Pure.pure Instr.lreturn) := fun c q h => by
  delta Decoder.instr
  exact (dz_bind (dz_u1 h)).trans rfl
set_option maxRecDepth 16384 in
theorem dzo177 : dzO 177 (Pure.pure Instr.return_) := fun c q h => by
  delta Decoder.instr
  exact (dz_bind (dz_u1 h)).trans rfl
set_option maxRecDepth 16384 in
theorem dzo180 : dzO 180 (Reader.u2 >>= fun v => Pure.pure (Instr.getfield v)) := fun c q h => by
  delta Decoder.instr
  exact (dz_bind (dz_u1 h)).trans rfl
set_option maxRecDepth 16384 in
theorem dzo181 : dzO 181 (Reader.u2 >>= fun v => Pure.pure (Instr.putfield v)) := fun c q h => by
  delta Decoder.instr
  exact (dz_bind (dz_u1 h)).trans rfl
set_option maxRecDepth 16384 in
theorem dzo182 : dzO 182 (Reader.u2 >>= fun v => Pure.pure (Instr.invokevirtual v)) := fun c q h => by
  delta Decoder.instr
  exact (dz_bind (dz_u1 h)).trans rfl
set_option maxRecDepth 16384 in
theorem dzo183 : dzO 183 (Reader.u2 >>= fun v => Pure.pure (Instr.invokespecial v)) := fun c q h => by
  delta Decoder.instr
  exact (dz_bind (dz_u1 h)).trans rfl
set_option maxRecDepth 16384 in
theorem dzo184 : dzO 184 (Reader.u2 >>= fun v => Pure.pure (Instr.invokestatic v)) := fun c q h => by
  delta Decoder.instr
  exact (dz_bind (dz_u1 h)).trans rfl
set_option maxRecDepth 16384 in
theorem dzo187 : dzO 187 (Reader.u2 >>= fun v => Pure.pure (Instr.new v)) := fun c q h => by
  delta Decoder.instr
  exact (dz_bind (dz_u1 h)).trans rfl
set_option maxRecDepth 16384 in
theorem dzo189 : dzO 189 (Reader.u2 >>= fun v => Pure.pure (Instr.anewarray v)) := fun c q h => by
  delta Decoder.instr
  exact (dz_bind (dz_u1 h)).trans rfl
set_option maxRecDepth 16384 in
theorem dzo190 : dzO 190 (Pure.pure Instr.arraylength) := fun c q h => by
  delta Decoder.instr
  exact (dz_bind (dz_u1 h)).trans rfl
set_option maxRecDepth 16384 in
theorem dzo191 : dzO 191 (Pure.pure Instr.athrow) := fun c q h => by
  delta Decoder.instr
  exact (dz_bind (dz_u1 h)).trans rfl
set_option maxRecDepth 16384 in
theorem dzo198 : dzO 198 (Reader.s2 >>= fun v => Pure.pure (Instr.ifnull v)) := fun c q h => by
  delta Decoder.instr
  exact (dz_bind (dz_u1 h)).trans rfl
set_option maxRecDepth 16384 in
theorem dzo199 : dzO 199 (Reader.s2 >>= fun v => Pure.pure (Instr.ifnonnull v)) := fun c q h => by
  delta Decoder.instr
  exact (dz_bind (dz_u1 h)).trans rfl
theorem qzbX13_odds_81 : dzB cX13_odds 81 [9, 97, 66, 132, 7, 1, 167, 255, 211, 42, 33, 22, 5, 28, 182, 1, 139, 173] := by decide +kernel
theorem qX13_odds_81 : decode cX13_odds 81 = .ok (.lconst 0, 1) := dz0 dzo9 0 qzbX13_odds_81 rfl
theorem qX13_odds_82 : decode cX13_odds 82 = .ok (.ladd, 1) := dz0 dzo97 1 qzbX13_odds_81 rfl
theorem qX13_odds_83 : decode cX13_odds 83 = .ok (.lstore_n 3, 1) := dz0 dzo66 2 qzbX13_odds_81 rfl
theorem qX13_odds_84 : decode cX13_odds 84 = .ok (.iinc 7 1, 3) := dz5 dzo132 3 7 1 1 rfl qzbX13_odds_81 rfl
theorem qX13_odds_87 : decode cX13_odds 87 = .ok (.goto (-45), 3) := dz4 dzo167 6 255 211 (-45) rfl qzbX13_odds_81 rfl
theorem qX13_odds_90 : decode cX13_odds 90 = .ok (.aload_n 0, 1) := dz0 dzo42 9 qzbX13_odds_81 rfl
theorem qX13_odds_91 : decode cX13_odds 91 = .ok (.lload_n 3, 1) := dz0 dzo33 10 qzbX13_odds_81 rfl
theorem qX13_odds_92 : decode cX13_odds 92 = .ok (.lload 5, 2) := dz1 dzo22 11 5 qzbX13_odds_81 rfl
theorem qX13_odds_94 : decode cX13_odds 94 = .ok (.iload_n 2, 1) := dz0 dzo28 13 qzbX13_odds_81 rfl
theorem qX13_odds_95 : decode cX13_odds 95 = .ok (.invokevirtual 395, 3) := dz2 dzo182 14 1 139 qzbX13_odds_81 rfl
theorem qX13_odds_98 : decode cX13_odds 98 = .ok (.lreturn, 1) := dz0 dzo173 17 qzbX13_odds_81 rfl
theorem qzbX13_onto_0 : dzB cX13_onto 0 [27, 42, 180, 1, 13, 180, 0, 158, 112, 62, 28, 154, 0, 29, 27, 42, 180, 1, 13, 180, 0, 158] := by decide +kernel
theorem qX13_onto_0 : decode cX13_onto 0 = .ok (.iload_n 1, 1) := dz0 dzo27 0 qzbX13_onto_0 rfl
theorem qX13_onto_1 : decode cX13_onto 1 = .ok (.aload_n 0, 1) := dz0 dzo42 1 qzbX13_onto_0 rfl
theorem qX13_onto_2 : decode cX13_onto 2 = .ok (.getfield 269, 3) := dz2 dzo180 2 1 13 qzbX13_onto_0 rfl
theorem qX13_onto_5 : decode cX13_onto 5 = .ok (.getfield 158, 3) := dz2 dzo180 5 0 158 qzbX13_onto_0 rfl
theorem qX13_onto_8 : decode cX13_onto 8 = .ok (.irem, 1) := dz0 dzo112 8 qzbX13_onto_0 rfl
theorem qX13_onto_9 : decode cX13_onto 9 = .ok (.istore_n 3, 1) := dz0 dzo62 9 qzbX13_onto_0 rfl
theorem qX13_onto_10 : decode cX13_onto 10 = .ok (.iload_n 2, 1) := dz0 dzo28 10 qzbX13_onto_0 rfl
theorem qX13_onto_11 : decode cX13_onto 11 = .ok (.ifCond .ne 29, 3) := dz4 dzo154 11 0 29 29 rfl qzbX13_onto_0 rfl
theorem qX13_onto_14 : decode cX13_onto 14 = .ok (.iload_n 1, 1) := dz0 dzo27 14 qzbX13_onto_0 rfl
theorem qX13_onto_15 : decode cX13_onto 15 = .ok (.aload_n 0, 1) := dz0 dzo42 15 qzbX13_onto_0 rfl
theorem qX13_onto_16 : decode cX13_onto 16 = .ok (.getfield 269, 3) := dz2 dzo180 16 1 13 qzbX13_onto_0 rfl
theorem qX13_onto_19 : decode cX13_onto 19 = .ok (.getfield 158, 3) := dz2 dzo180 19 0 158 qzbX13_onto_0 rfl
theorem qzbX13_onto_22 : dzB cX13_onto 22 [162, 0, 8, 16, 254, 167, 0, 12, 27, 42, 180, 1, 13, 180, 0, 158, 100, 172, 28, 5, 160, 0, 34, 27] := by decide +kernel
theorem qX13_onto_22 : decode cX13_onto 22 = .ok (.if_icmp .ge 8, 3) := dz4 dzo162 0 0 8 8 rfl qzbX13_onto_22 rfl
theorem qX13_onto_25 : decode cX13_onto 25 = .ok (.bipush (-2), 2) := dz3 dzo16 3 254 (-2) rfl qzbX13_onto_22 rfl
theorem qX13_onto_27 : decode cX13_onto 27 = .ok (.goto 12, 3) := dz4 dzo167 5 0 12 12 rfl qzbX13_onto_22 rfl
theorem qX13_onto_30 : decode cX13_onto 30 = .ok (.iload_n 1, 1) := dz0 dzo27 8 qzbX13_onto_22 rfl
theorem qX13_onto_31 : decode cX13_onto 31 = .ok (.aload_n 0, 1) := dz0 dzo42 9 qzbX13_onto_22 rfl
theorem qX13_onto_32 : decode cX13_onto 32 = .ok (.getfield 269, 3) := dz2 dzo180 10 1 13 qzbX13_onto_22 rfl
theorem qX13_onto_35 : decode cX13_onto 35 = .ok (.getfield 158, 3) := dz2 dzo180 13 0 158 qzbX13_onto_22 rfl
theorem qX13_onto_38 : decode cX13_onto 38 = .ok (.isub, 1) := dz0 dzo100 16 qzbX13_onto_22 rfl
theorem qX13_onto_39 : decode cX13_onto 39 = .ok (.ireturn, 1) := dz0 dzo172 17 qzbX13_onto_22 rfl
theorem qX13_onto_40 : decode cX13_onto 40 = .ok (.iload_n 2, 1) := dz0 dzo28 18 qzbX13_onto_22 rfl
theorem qX13_onto_41 : decode cX13_onto 41 = .ok (.iconst 2, 1) := dz0 dzo5 19 qzbX13_onto_22 rfl
theorem qX13_onto_42 : decode cX13_onto 42 = .ok (.if_icmp .ne 34, 3) := dz4 dzo160 20 0 34 34 rfl qzbX13_onto_22 rfl
theorem qX13_onto_45 : decode cX13_onto 45 = .ok (.iload_n 1, 1) := dz0 dzo27 23 qzbX13_onto_22 rfl
theorem qzbX13_onto_46 : dzB cX13_onto 46 [42, 180, 1, 13, 180, 0, 158, 96, 42, 182, 1, 21, 162, 0, 15, 27, 42, 180, 1, 13, 180, 0, 158, 96] := by decide +kernel
theorem qX13_onto_46 : decode cX13_onto 46 = .ok (.aload_n 0, 1) := dz0 dzo42 0 qzbX13_onto_46 rfl
theorem qX13_onto_47 : decode cX13_onto 47 = .ok (.getfield 269, 3) := dz2 dzo180 1 1 13 qzbX13_onto_46 rfl
theorem qX13_onto_50 : decode cX13_onto 50 = .ok (.getfield 158, 3) := dz2 dzo180 4 0 158 qzbX13_onto_46 rfl
theorem qX13_onto_53 : decode cX13_onto 53 = .ok (.iadd, 1) := dz0 dzo96 7 qzbX13_onto_46 rfl
theorem qX13_onto_54 : decode cX13_onto 54 = .ok (.aload_n 0, 1) := dz0 dzo42 8 qzbX13_onto_46 rfl
theorem qX13_onto_55 : decode cX13_onto 55 = .ok (.invokevirtual 277, 3) := dz2 dzo182 9 1 21 qzbX13_onto_46 rfl
theorem qX13_onto_58 : decode cX13_onto 58 = .ok (.if_icmp .ge 15, 3) := dz4 dzo162 12 0 15 15 rfl qzbX13_onto_46 rfl
theorem qX13_onto_61 : decode cX13_onto 61 = .ok (.iload_n 1, 1) := dz0 dzo27 15 qzbX13_onto_46 rfl
theorem qX13_onto_62 : decode cX13_onto 62 = .ok (.aload_n 0, 1) := dz0 dzo42 16 qzbX13_onto_46 rfl
theorem qX13_onto_63 : decode cX13_onto 63 = .ok (.getfield 269, 3) := dz2 dzo180 17 1 13 qzbX13_onto_46 rfl
theorem qX13_onto_66 : decode cX13_onto 66 = .ok (.getfield 158, 3) := dz2 dzo180 20 0 158 qzbX13_onto_46 rfl
theorem qX13_onto_69 : decode cX13_onto 69 = .ok (.iadd, 1) := dz0 dzo96 23 qzbX13_onto_46 rfl
theorem qzbX13_onto_70 : dzB cX13_onto 70 [167, 0, 5, 16, 254, 172, 28, 4, 160, 0, 25, 29, 4, 96, 42, 180, 1, 13, 180, 0, 158, 162, 0, 9] := by decide +kernel
theorem qX13_onto_70 : decode cX13_onto 70 = .ok (.goto 5, 3) := dz4 dzo167 0 0 5 5 rfl qzbX13_onto_70 rfl
theorem qX13_onto_73 : decode cX13_onto 73 = .ok (.bipush (-2), 2) := dz3 dzo16 3 254 (-2) rfl qzbX13_onto_70 rfl
theorem qX13_onto_75 : decode cX13_onto 75 = .ok (.ireturn, 1) := dz0 dzo172 5 qzbX13_onto_70 rfl
theorem qX13_onto_76 : decode cX13_onto 76 = .ok (.iload_n 2, 1) := dz0 dzo28 6 qzbX13_onto_70 rfl
theorem qX13_onto_77 : decode cX13_onto 77 = .ok (.iconst 1, 1) := dz0 dzo4 7 qzbX13_onto_70 rfl
theorem qX13_onto_78 : decode cX13_onto 78 = .ok (.if_icmp .ne 25, 3) := dz4 dzo160 8 0 25 25 rfl qzbX13_onto_70 rfl
theorem qX13_onto_81 : decode cX13_onto 81 = .ok (.iload_n 3, 1) := dz0 dzo29 11 qzbX13_onto_70 rfl
theorem qX13_onto_82 : decode cX13_onto 82 = .ok (.iconst 1, 1) := dz0 dzo4 12 qzbX13_onto_70 rfl
theorem qX13_onto_83 : decode cX13_onto 83 = .ok (.iadd, 1) := dz0 dzo96 13 qzbX13_onto_70 rfl
theorem qX13_onto_84 : decode cX13_onto 84 = .ok (.aload_n 0, 1) := dz0 dzo42 14 qzbX13_onto_70 rfl
theorem qX13_onto_85 : decode cX13_onto 85 = .ok (.getfield 269, 3) := dz2 dzo180 15 1 13 qzbX13_onto_70 rfl
theorem qX13_onto_88 : decode cX13_onto 88 = .ok (.getfield 158, 3) := dz2 dzo180 18 0 158 qzbX13_onto_70 rfl
theorem qX13_onto_91 : decode cX13_onto 91 = .ok (.if_icmp .ge 9, 3) := dz4 dzo162 21 0 9 9 rfl qzbX13_onto_70 rfl
theorem qzbX13_onto_94 : dzB cX13_onto 94 [27, 4, 96, 167, 0, 5, 16, 254, 172, 29, 158, 0, 9, 27, 4, 100, 167, 0, 5, 16, 254, 172] := by decide +kernel
theorem qX13_onto_94 : decode cX13_onto 94 = .ok (.iload_n 1, 1) := dz0 dzo27 0 qzbX13_onto_94 rfl
theorem qX13_onto_95 : decode cX13_onto 95 = .ok (.iconst 1, 1) := dz0 dzo4 1 qzbX13_onto_94 rfl
theorem qX13_onto_96 : decode cX13_onto 96 = .ok (.iadd, 1) := dz0 dzo96 2 qzbX13_onto_94 rfl
theorem qX13_onto_97 : decode cX13_onto 97 = .ok (.goto 5, 3) := dz4 dzo167 3 0 5 5 rfl qzbX13_onto_94 rfl
theorem qX13_onto_100 : decode cX13_onto 100 = .ok (.bipush (-2), 2) := dz3 dzo16 6 254 (-2) rfl qzbX13_onto_94 rfl
theorem qX13_onto_102 : decode cX13_onto 102 = .ok (.ireturn, 1) := dz0 dzo172 8 qzbX13_onto_94 rfl
theorem qX13_onto_103 : decode cX13_onto 103 = .ok (.iload_n 3, 1) := dz0 dzo29 9 qzbX13_onto_94 rfl
theorem qX13_onto_104 : decode cX13_onto 104 = .ok (.ifCond .le 9, 3) := dz4 dzo158 10 0 9 9 rfl qzbX13_onto_94 rfl
theorem qX13_onto_107 : decode cX13_onto 107 = .ok (.iload_n 1, 1) := dz0 dzo27 13 qzbX13_onto_94 rfl
theorem qX13_onto_108 : decode cX13_onto 108 = .ok (.iconst 1, 1) := dz0 dzo4 14 qzbX13_onto_94 rfl
theorem qX13_onto_109 : decode cX13_onto 109 = .ok (.isub, 1) := dz0 dzo100 15 qzbX13_onto_94 rfl
theorem qX13_onto_110 : decode cX13_onto 110 = .ok (.goto 5, 3) := dz4 dzo167 16 0 5 5 rfl qzbX13_onto_94 rfl
theorem qX13_onto_113 : decode cX13_onto 113 = .ok (.bipush (-2), 2) := dz3 dzo16 19 254 (-2) rfl qzbX13_onto_94 rfl
theorem qX13_onto_115 : decode cX13_onto 115 = .ok (.ireturn, 1) := dz0 dzo172 21 qzbX13_onto_94 rfl
theorem qzbX13_ontoDitch_0 : dzB cX13_ontoDitch 0 [26] := by decide +kernel
theorem qX13_ontoDitch_0 : decode cX13_ontoDitch 0 = .ok (.iload_n 0, 1) := dz0 dzo26 0 qzbX13_ontoDitch_0 rfl
theorem qX13_ontoDitch_1 : decode cX13_ontoDitch 1 = .ok (.tableswitch 52 0 2 #[27, 47, 50], 27) := by decide +kernel
theorem qzbX13_ontoDitch_28 : dzB cX13_ontoDitch 28 [27, 5, 160, 0, 7, 6, 167, 0, 13, 27, 154, 0, 8, 16, 254, 167, 0, 4, 4, 172, 16, 254, 172, 4] := by decide +kernel
theorem qX13_ontoDitch_28 : decode cX13_ontoDitch 28 = .ok (.iload_n 1, 1) := dz0 dzo27 0 qzbX13_ontoDitch_28 rfl
theorem qX13_ontoDitch_29 : decode cX13_ontoDitch 29 = .ok (.iconst 2, 1) := dz0 dzo5 1 qzbX13_ontoDitch_28 rfl
theorem qX13_ontoDitch_30 : decode cX13_ontoDitch 30 = .ok (.if_icmp .ne 7, 3) := dz4 dzo160 2 0 7 7 rfl qzbX13_ontoDitch_28 rfl
theorem qX13_ontoDitch_33 : decode cX13_ontoDitch 33 = .ok (.iconst 3, 1) := dz0 dzo6 5 qzbX13_ontoDitch_28 rfl
theorem qX13_ontoDitch_34 : decode cX13_ontoDitch 34 = .ok (.goto 13, 3) := dz4 dzo167 6 0 13 13 rfl qzbX13_ontoDitch_28 rfl
theorem qX13_ontoDitch_37 : decode cX13_ontoDitch 37 = .ok (.iload_n 1, 1) := dz0 dzo27 9 qzbX13_ontoDitch_28 rfl
theorem qX13_ontoDitch_38 : decode cX13_ontoDitch 38 = .ok (.ifCond .ne 8, 3) := dz4 dzo154 10 0 8 8 rfl qzbX13_ontoDitch_28 rfl
theorem qX13_ontoDitch_41 : decode cX13_ontoDitch 41 = .ok (.bipush (-2), 2) := dz3 dzo16 13 254 (-2) rfl qzbX13_ontoDitch_28 rfl
theorem qX13_ontoDitch_43 : decode cX13_ontoDitch 43 = .ok (.goto 4, 3) := dz4 dzo167 15 0 4 4 rfl qzbX13_ontoDitch_28 rfl
theorem qX13_ontoDitch_46 : decode cX13_ontoDitch 46 = .ok (.iconst 1, 1) := dz0 dzo4 18 qzbX13_ontoDitch_28 rfl
theorem qX13_ontoDitch_47 : decode cX13_ontoDitch 47 = .ok (.ireturn, 1) := dz0 dzo172 19 qzbX13_ontoDitch_28 rfl
theorem qX13_ontoDitch_48 : decode cX13_ontoDitch 48 = .ok (.bipush (-2), 2) := dz3 dzo16 20 254 (-2) rfl qzbX13_ontoDitch_28 rfl
theorem qX13_ontoDitch_50 : decode cX13_ontoDitch 50 = .ok (.ireturn, 1) := dz0 dzo172 22 qzbX13_ontoDitch_28 rfl
theorem qX13_ontoDitch_51 : decode cX13_ontoDitch 51 = .ok (.iconst 1, 1) := dz0 dzo4 23 qzbX13_ontoDitch_28 rfl
theorem qzbX13_ontoDitch_52 : dzB cX13_ontoDitch 52 [172, 27, 5, 160, 0, 7, 5, 167, 0, 12, 27, 154, 0, 7, 7, 167, 0, 4, 4, 172] := by decide +kernel
theorem qX13_ontoDitch_52 : decode cX13_ontoDitch 52 = .ok (.ireturn, 1) := dz0 dzo172 0 qzbX13_ontoDitch_52 rfl
theorem qX13_ontoDitch_53 : decode cX13_ontoDitch 53 = .ok (.iload_n 1, 1) := dz0 dzo27 1 qzbX13_ontoDitch_52 rfl
theorem qX13_ontoDitch_54 : decode cX13_ontoDitch 54 = .ok (.iconst 2, 1) := dz0 dzo5 2 qzbX13_ontoDitch_52 rfl
theorem qX13_ontoDitch_55 : decode cX13_ontoDitch 55 = .ok (.if_icmp .ne 7, 3) := dz4 dzo160 3 0 7 7 rfl qzbX13_ontoDitch_52 rfl
theorem qX13_ontoDitch_58 : decode cX13_ontoDitch 58 = .ok (.iconst 2, 1) := dz0 dzo5 6 qzbX13_ontoDitch_52 rfl
theorem qX13_ontoDitch_59 : decode cX13_ontoDitch 59 = .ok (.goto 12, 3) := dz4 dzo167 7 0 12 12 rfl qzbX13_ontoDitch_52 rfl
theorem qX13_ontoDitch_62 : decode cX13_ontoDitch 62 = .ok (.iload_n 1, 1) := dz0 dzo27 10 qzbX13_ontoDitch_52 rfl
theorem qX13_ontoDitch_63 : decode cX13_ontoDitch 63 = .ok (.ifCond .ne 7, 3) := dz4 dzo154 11 0 7 7 rfl qzbX13_ontoDitch_52 rfl
theorem qX13_ontoDitch_66 : decode cX13_ontoDitch 66 = .ok (.iconst 4, 1) := dz0 dzo7 14 qzbX13_ontoDitch_52 rfl
theorem qX13_ontoDitch_67 : decode cX13_ontoDitch 67 = .ok (.goto 4, 3) := dz4 dzo167 15 0 4 4 rfl qzbX13_ontoDitch_52 rfl
theorem qX13_ontoDitch_70 : decode cX13_ontoDitch 70 = .ok (.iconst 1, 1) := dz0 dzo4 18 qzbX13_ontoDitch_52 rfl
theorem qX13_ontoDitch_71 : decode cX13_ontoDitch 71 = .ok (.ireturn, 1) := dz0 dzo172 19 qzbX13_ontoDitch_52 rfl
theorem qzbX13_packed_0 : dzB cX13_packed 0 [9, 64, 3, 62, 29, 42, 182, 0, 62, 162, 0, 27, 20, 0, 68, 31, 105, 42, 29, 182, 0, 70, 16, 97] := by decide +kernel
theorem qX13_packed_0 : decode cX13_packed 0 = .ok (.lconst 0, 1) := dz0 dzo9 0 qzbX13_packed_0 rfl
theorem qX13_packed_1 : decode cX13_packed 1 = .ok (.lstore_n 1, 1) := dz0 dzo64 1 qzbX13_packed_0 rfl
theorem qX13_packed_2 : decode cX13_packed 2 = .ok (.iconst 0, 1) := dz0 dzo3 2 qzbX13_packed_0 rfl
theorem qX13_packed_3 : decode cX13_packed 3 = .ok (.istore_n 3, 1) := dz0 dzo62 3 qzbX13_packed_0 rfl
theorem qX13_packed_4 : decode cX13_packed 4 = .ok (.iload_n 3, 1) := dz0 dzo29 4 qzbX13_packed_0 rfl
theorem qX13_packed_5 : decode cX13_packed 5 = .ok (.aload_n 0, 1) := dz0 dzo42 5 qzbX13_packed_0 rfl
theorem qX13_packed_6 : decode cX13_packed 6 = .ok (.invokevirtual 62, 3) := dz2 dzo182 6 0 62 qzbX13_packed_0 rfl
theorem qX13_packed_9 : decode cX13_packed 9 = .ok (.if_icmp .ge 27, 3) := dz4 dzo162 9 0 27 27 rfl qzbX13_packed_0 rfl
theorem qX13_packed_12 : decode cX13_packed 12 = .ok (.ldc2_w 68, 3) := dz2 dzo20 12 0 68 qzbX13_packed_0 rfl
theorem qX13_packed_15 : decode cX13_packed 15 = .ok (.lload_n 1, 1) := dz0 dzo31 15 qzbX13_packed_0 rfl
theorem qX13_packed_16 : decode cX13_packed 16 = .ok (.lmul, 1) := dz0 dzo105 16 qzbX13_packed_0 rfl
theorem qX13_packed_17 : decode cX13_packed 17 = .ok (.aload_n 0, 1) := dz0 dzo42 17 qzbX13_packed_0 rfl
theorem qX13_packed_18 : decode cX13_packed 18 = .ok (.iload_n 3, 1) := dz0 dzo29 18 qzbX13_packed_0 rfl
theorem qX13_packed_19 : decode cX13_packed 19 = .ok (.invokevirtual 70, 3) := dz2 dzo182 19 0 70 qzbX13_packed_0 rfl
theorem qX13_packed_22 : decode cX13_packed 22 = .ok (.bipush 97, 2) := dz3 dzo16 22 97 97 rfl qzbX13_packed_0 rfl
theorem qzbX13_packed_24 : dzB cX13_packed 24 [100, 4, 96, 133, 97, 64, 132, 3, 1, 167, 255, 227, 31, 173] := by decide +kernel
theorem qX13_packed_24 : decode cX13_packed 24 = .ok (.isub, 1) := dz0 dzo100 0 qzbX13_packed_24 rfl
theorem qX13_packed_25 : decode cX13_packed 25 = .ok (.iconst 1, 1) := dz0 dzo4 1 qzbX13_packed_24 rfl
theorem qX13_packed_26 : decode cX13_packed 26 = .ok (.iadd, 1) := dz0 dzo96 2 qzbX13_packed_24 rfl
theorem qX13_packed_27 : decode cX13_packed 27 = .ok (.i2l, 1) := dz0 dzo133 3 qzbX13_packed_24 rfl
theorem qX13_packed_28 : decode cX13_packed 28 = .ok (.ladd, 1) := dz0 dzo97 4 qzbX13_packed_24 rfl
theorem qX13_packed_29 : decode cX13_packed 29 = .ok (.lstore_n 1, 1) := dz0 dzo64 5 qzbX13_packed_24 rfl
theorem qX13_packed_30 : decode cX13_packed 30 = .ok (.iinc 3 1, 3) := dz5 dzo132 6 3 1 1 rfl qzbX13_packed_24 rfl
theorem qX13_packed_33 : decode cX13_packed 33 = .ok (.goto (-29), 3) := dz4 dzo167 9 255 227 (-29) rfl qzbX13_packed_24 rfl
theorem qX13_packed_36 : decode cX13_packed 36 = .ok (.lload_n 1, 1) := dz0 dzo31 12 qzbX13_packed_24 rfl
theorem qX13_packed_37 : decode cX13_packed 37 = .ok (.lreturn, 1) := dz0 dzo173 13 qzbX13_packed_24 rfl
theorem qzbX13_park_0 : dzB cX13_park 0 [42, 3, 181, 0, 42, 27, 155, 0, 11, 27, 42, 180, 1, 6, 164, 0, 9, 42, 5, 182, 0, 48, 172, 42] := by decide +kernel
theorem qX13_park_0 : decode cX13_park 0 = .ok (.aload_n 0, 1) := dz0 dzo42 0 qzbX13_park_0 rfl
theorem qX13_park_1 : decode cX13_park 1 = .ok (.iconst 0, 1) := dz0 dzo3 1 qzbX13_park_0 rfl
theorem qX13_park_2 : decode cX13_park 2 = .ok (.putfield 42, 3) := dz2 dzo181 2 0 42 qzbX13_park_0 rfl
theorem qX13_park_5 : decode cX13_park 5 = .ok (.iload_n 1, 1) := dz0 dzo27 5 qzbX13_park_0 rfl
theorem qX13_park_6 : decode cX13_park 6 = .ok (.ifCond .lt 11, 3) := dz4 dzo155 6 0 11 11 rfl qzbX13_park_0 rfl
theorem qX13_park_9 : decode cX13_park 9 = .ok (.iload_n 1, 1) := dz0 dzo27 9 qzbX13_park_0 rfl
theorem qX13_park_10 : decode cX13_park 10 = .ok (.aload_n 0, 1) := dz0 dzo42 10 qzbX13_park_0 rfl
theorem qX13_park_11 : decode cX13_park 11 = .ok (.getfield 262, 3) := dz2 dzo180 11 1 6 qzbX13_park_0 rfl
theorem qX13_park_14 : decode cX13_park 14 = .ok (.if_icmp .le 9, 3) := dz4 dzo164 14 0 9 9 rfl qzbX13_park_0 rfl
theorem qX13_park_17 : decode cX13_park 17 = .ok (.aload_n 0, 1) := dz0 dzo42 17 qzbX13_park_0 rfl
theorem qX13_park_18 : decode cX13_park 18 = .ok (.iconst 2, 1) := dz0 dzo5 18 qzbX13_park_0 rfl
theorem qX13_park_19 : decode cX13_park 19 = .ok (.invokevirtual 48, 3) := dz2 dzo182 19 0 48 qzbX13_park_0 rfl
theorem qX13_park_22 : decode cX13_park 22 = .ok (.ireturn, 1) := dz0 dzo172 22 qzbX13_park_0 rfl
theorem qX13_park_23 : decode cX13_park 23 = .ok (.aload_n 0, 1) := dz0 dzo42 23 qzbX13_park_0 rfl
theorem qzbX13_park_24 : dzB cX13_park 24 [27, 181, 0, 59, 42, 3, 181, 1, 6, 42, 3, 181, 0, 77, 42, 3, 181, 0, 103, 42, 187, 0, 159, 89] := by decide +kernel
theorem qX13_park_24 : decode cX13_park 24 = .ok (.iload_n 1, 1) := dz0 dzo27 0 qzbX13_park_24 rfl
theorem qX13_park_25 : decode cX13_park 25 = .ok (.putfield 59, 3) := dz2 dzo181 1 0 59 qzbX13_park_24 rfl
theorem qX13_park_28 : decode cX13_park 28 = .ok (.aload_n 0, 1) := dz0 dzo42 4 qzbX13_park_24 rfl
theorem qX13_park_29 : decode cX13_park 29 = .ok (.iconst 0, 1) := dz0 dzo3 5 qzbX13_park_24 rfl
theorem qX13_park_30 : decode cX13_park 30 = .ok (.putfield 262, 3) := dz2 dzo181 6 1 6 qzbX13_park_24 rfl
theorem qX13_park_33 : decode cX13_park 33 = .ok (.aload_n 0, 1) := dz0 dzo42 9 qzbX13_park_24 rfl
theorem qX13_park_34 : decode cX13_park 34 = .ok (.iconst 0, 1) := dz0 dzo3 10 qzbX13_park_24 rfl
theorem qX13_park_35 : decode cX13_park 35 = .ok (.putfield 77, 3) := dz2 dzo181 11 0 77 qzbX13_park_24 rfl
theorem qX13_park_38 : decode cX13_park 38 = .ok (.aload_n 0, 1) := dz0 dzo42 14 qzbX13_park_24 rfl
theorem qX13_park_39 : decode cX13_park 39 = .ok (.iconst 0, 1) := dz0 dzo3 15 qzbX13_park_24 rfl
theorem qX13_park_40 : decode cX13_park 40 = .ok (.putfield 103, 3) := dz2 dzo181 16 0 103 qzbX13_park_24 rfl
theorem qX13_park_43 : decode cX13_park 43 = .ok (.aload_n 0, 1) := dz0 dzo42 19 qzbX13_park_24 rfl
theorem qX13_park_44 : decode cX13_park 44 = .ok (.new 159, 3) := dz2 dzo187 20 0 159 qzbX13_park_24 rfl
theorem qX13_park_47 : decode cX13_park 47 = .ok (.dup, 1) := dz0 dzo89 23 qzbX13_park_24 rfl
theorem qzbX13_park_48 : dzB cX13_park 48 [183, 1, 9, 181, 0, 154, 42, 3, 181, 0, 74, 42, 182, 0, 113, 42, 182, 1, 10, 42, 180, 0, 103] := by decide +kernel
theorem qX13_park_48 : decode cX13_park 48 = .ok (.invokespecial 265, 3) := dz2 dzo183 0 1 9 qzbX13_park_48 rfl
theorem qX13_park_51 : decode cX13_park 51 = .ok (.putfield 154, 3) := dz2 dzo181 3 0 154 qzbX13_park_48 rfl
theorem qX13_park_54 : decode cX13_park 54 = .ok (.aload_n 0, 1) := dz0 dzo42 6 qzbX13_park_48 rfl
theorem qX13_park_55 : decode cX13_park 55 = .ok (.iconst 0, 1) := dz0 dzo3 7 qzbX13_park_48 rfl
theorem qX13_park_56 : decode cX13_park 56 = .ok (.putfield 74, 3) := dz2 dzo181 8 0 74 qzbX13_park_48 rfl
theorem qX13_park_59 : decode cX13_park 59 = .ok (.aload_n 0, 1) := dz0 dzo42 11 qzbX13_park_48 rfl
theorem qX13_park_60 : decode cX13_park 60 = .ok (.invokevirtual 113, 3) := dz2 dzo182 12 0 113 qzbX13_park_48 rfl
theorem qX13_park_63 : decode cX13_park 63 = .ok (.aload_n 0, 1) := dz0 dzo42 15 qzbX13_park_48 rfl
theorem qX13_park_64 : decode cX13_park 64 = .ok (.invokevirtual 266, 3) := dz2 dzo182 16 1 10 qzbX13_park_48 rfl
theorem qX13_park_67 : decode cX13_park 67 = .ok (.aload_n 0, 1) := dz0 dzo42 19 qzbX13_park_48 rfl
theorem qX13_park_68 : decode cX13_park 68 = .ok (.getfield 103, 3) := dz2 dzo180 20 0 103 qzbX13_park_48 rfl
theorem qzbX13_park_71 : dzB cX13_park 71 [158, 0, 18, 42, 7, 181, 0, 45, 42, 42, 180, 0, 106, 181, 0, 9, 2, 172, 42, 42, 180, 0, 154] := by decide +kernel
theorem qX13_park_71 : decode cX13_park 71 = .ok (.ifCond .le 18, 3) := dz4 dzo158 0 0 18 18 rfl qzbX13_park_71 rfl
theorem qX13_park_74 : decode cX13_park 74 = .ok (.aload_n 0, 1) := dz0 dzo42 3 qzbX13_park_71 rfl
theorem qX13_park_75 : decode cX13_park 75 = .ok (.iconst 4, 1) := dz0 dzo7 4 qzbX13_park_71 rfl
theorem qX13_park_76 : decode cX13_park 76 = .ok (.putfield 45, 3) := dz2 dzo181 5 0 45 qzbX13_park_71 rfl
theorem qX13_park_79 : decode cX13_park 79 = .ok (.aload_n 0, 1) := dz0 dzo42 8 qzbX13_park_71 rfl
theorem qX13_park_80 : decode cX13_park 80 = .ok (.aload_n 0, 1) := dz0 dzo42 9 qzbX13_park_71 rfl
theorem qX13_park_81 : decode cX13_park 81 = .ok (.getfield 106, 3) := dz2 dzo180 10 0 106 qzbX13_park_71 rfl
theorem qX13_park_84 : decode cX13_park 84 = .ok (.putfield 9, 3) := dz2 dzo181 13 0 9 qzbX13_park_71 rfl
theorem qX13_park_87 : decode cX13_park 87 = .ok (.iconst (-1), 1) := dz0 dzo2 16 qzbX13_park_71 rfl
theorem qX13_park_88 : decode cX13_park 88 = .ok (.ireturn, 1) := dz0 dzo172 17 qzbX13_park_71 rfl
theorem qX13_park_89 : decode cX13_park 89 = .ok (.aload_n 0, 1) := dz0 dzo42 18 qzbX13_park_71 rfl
theorem qX13_park_90 : decode cX13_park 90 = .ok (.aload_n 0, 1) := dz0 dzo42 19 qzbX13_park_71 rfl
theorem qX13_park_91 : decode cX13_park 91 = .ok (.getfield 154, 3) := dz2 dzo180 20 0 154 qzbX13_park_71 rfl
theorem qzbX13_park_94 : dzB cX13_park 94 [181, 1, 13, 3, 61, 28, 16, 32, 162, 0, 16, 42, 180, 0, 17, 28, 3, 79, 132, 2, 1, 167, 255, 240] := by decide +kernel
theorem qX13_park_94 : decode cX13_park 94 = .ok (.putfield 269, 3) := dz2 dzo181 0 1 13 qzbX13_park_94 rfl
theorem qX13_park_97 : decode cX13_park 97 = .ok (.iconst 0, 1) := dz0 dzo3 3 qzbX13_park_94 rfl
theorem qX13_park_98 : decode cX13_park 98 = .ok (.istore_n 2, 1) := dz0 dzo61 4 qzbX13_park_94 rfl
theorem qX13_park_99 : decode cX13_park 99 = .ok (.iload_n 2, 1) := dz0 dzo28 5 qzbX13_park_94 rfl
theorem qX13_park_100 : decode cX13_park 100 = .ok (.bipush 32, 2) := dz3 dzo16 6 32 32 rfl qzbX13_park_94 rfl
theorem qX13_park_102 : decode cX13_park 102 = .ok (.if_icmp .ge 16, 3) := dz4 dzo162 8 0 16 16 rfl qzbX13_park_94 rfl
theorem qX13_park_105 : decode cX13_park 105 = .ok (.aload_n 0, 1) := dz0 dzo42 11 qzbX13_park_94 rfl
theorem qX13_park_106 : decode cX13_park 106 = .ok (.getfield 17, 3) := dz2 dzo180 12 0 17 qzbX13_park_94 rfl
theorem qX13_park_109 : decode cX13_park 109 = .ok (.iload_n 2, 1) := dz0 dzo28 15 qzbX13_park_94 rfl
theorem qX13_park_110 : decode cX13_park 110 = .ok (.iconst 0, 1) := dz0 dzo3 16 qzbX13_park_94 rfl
theorem qX13_park_111 : decode cX13_park 111 = .ok (.iastore, 1) := dz0 dzo79 17 qzbX13_park_94 rfl
theorem qX13_park_112 : decode cX13_park 112 = .ok (.iinc 2 1, 3) := dz5 dzo132 18 2 1 1 rfl qzbX13_park_94 rfl
theorem qX13_park_115 : decode cX13_park 115 = .ok (.goto (-16), 3) := dz4 dzo167 21 255 240 (-16) rfl qzbX13_park_94 rfl
theorem qzbX13_park_118 : dzB cX13_park 118 [3, 61, 28, 16, 20, 162, 0, 24, 42, 180, 0, 17, 28, 42, 180, 1, 13, 180, 0, 201, 28, 46, 79] := by decide +kernel
theorem qX13_park_118 : decode cX13_park 118 = .ok (.iconst 0, 1) := dz0 dzo3 0 qzbX13_park_118 rfl
theorem qX13_park_119 : decode cX13_park 119 = .ok (.istore_n 2, 1) := dz0 dzo61 1 qzbX13_park_118 rfl
theorem qX13_park_120 : decode cX13_park 120 = .ok (.iload_n 2, 1) := dz0 dzo28 2 qzbX13_park_118 rfl
theorem qX13_park_121 : decode cX13_park 121 = .ok (.bipush 20, 2) := dz3 dzo16 3 20 20 rfl qzbX13_park_118 rfl
theorem qX13_park_123 : decode cX13_park 123 = .ok (.if_icmp .ge 24, 3) := dz4 dzo162 5 0 24 24 rfl qzbX13_park_118 rfl
theorem qX13_park_126 : decode cX13_park 126 = .ok (.aload_n 0, 1) := dz0 dzo42 8 qzbX13_park_118 rfl
theorem qX13_park_127 : decode cX13_park 127 = .ok (.getfield 17, 3) := dz2 dzo180 9 0 17 qzbX13_park_118 rfl
theorem qX13_park_130 : decode cX13_park 130 = .ok (.iload_n 2, 1) := dz0 dzo28 12 qzbX13_park_118 rfl
theorem qX13_park_131 : decode cX13_park 131 = .ok (.aload_n 0, 1) := dz0 dzo42 13 qzbX13_park_118 rfl
theorem qX13_park_132 : decode cX13_park 132 = .ok (.getfield 269, 3) := dz2 dzo180 14 1 13 qzbX13_park_118 rfl
theorem qX13_park_135 : decode cX13_park 135 = .ok (.getfield 201, 3) := dz2 dzo180 17 0 201 qzbX13_park_118 rfl
theorem qX13_park_138 : decode cX13_park 138 = .ok (.iload_n 2, 1) := dz0 dzo28 20 qzbX13_park_118 rfl
theorem qX13_park_139 : decode cX13_park 139 = .ok (.iaload, 1) := dz0 dzo46 21 qzbX13_park_118 rfl
theorem qX13_park_140 : decode cX13_park 140 = .ok (.iastore, 1) := dz0 dzo79 22 qzbX13_park_118 rfl
theorem qzbX13_park_141 : dzB cX13_park 141 [132, 2, 1, 167, 255, 232, 3, 61, 28, 42, 180, 1, 13, 180, 0, 206, 162, 0, 27, 42, 180, 0, 17] := by decide +kernel
theorem qX13_park_141 : decode cX13_park 141 = .ok (.iinc 2 1, 3) := dz5 dzo132 0 2 1 1 rfl qzbX13_park_141 rfl
theorem qX13_park_144 : decode cX13_park 144 = .ok (.goto (-24), 3) := dz4 dzo167 3 255 232 (-24) rfl qzbX13_park_141 rfl
theorem qX13_park_147 : decode cX13_park 147 = .ok (.iconst 0, 1) := dz0 dzo3 6 qzbX13_park_141 rfl
theorem qX13_park_148 : decode cX13_park 148 = .ok (.istore_n 2, 1) := dz0 dzo61 7 qzbX13_park_141 rfl
theorem qX13_park_149 : decode cX13_park 149 = .ok (.iload_n 2, 1) := dz0 dzo28 8 qzbX13_park_141 rfl
theorem qX13_park_150 : decode cX13_park 150 = .ok (.aload_n 0, 1) := dz0 dzo42 9 qzbX13_park_141 rfl
theorem qX13_park_151 : decode cX13_park 151 = .ok (.getfield 269, 3) := dz2 dzo180 10 1 13 qzbX13_park_141 rfl
theorem qX13_park_154 : decode cX13_park 154 = .ok (.getfield 206, 3) := dz2 dzo180 13 0 206 qzbX13_park_141 rfl
theorem qX13_park_157 : decode cX13_park 157 = .ok (.if_icmp .ge 27, 3) := dz4 dzo162 16 0 27 27 rfl qzbX13_park_141 rfl
theorem qX13_park_160 : decode cX13_park 160 = .ok (.aload_n 0, 1) := dz0 dzo42 19 qzbX13_park_141 rfl
theorem qX13_park_161 : decode cX13_park 161 = .ok (.getfield 17, 3) := dz2 dzo180 20 0 17 qzbX13_park_141 rfl
theorem qzbX13_park_164 : dzB cX13_park 164 [16, 20, 28, 96, 42, 180, 1, 13, 180, 0, 241, 28, 46, 79, 132, 2, 1, 167, 255, 224, 42, 3] := by decide +kernel
theorem qX13_park_164 : decode cX13_park 164 = .ok (.bipush 20, 2) := dz3 dzo16 0 20 20 rfl qzbX13_park_164 rfl
theorem qX13_park_166 : decode cX13_park 166 = .ok (.iload_n 2, 1) := dz0 dzo28 2 qzbX13_park_164 rfl
theorem qX13_park_167 : decode cX13_park 167 = .ok (.iadd, 1) := dz0 dzo96 3 qzbX13_park_164 rfl
theorem qX13_park_168 : decode cX13_park 168 = .ok (.aload_n 0, 1) := dz0 dzo42 4 qzbX13_park_164 rfl
theorem qX13_park_169 : decode cX13_park 169 = .ok (.getfield 269, 3) := dz2 dzo180 5 1 13 qzbX13_park_164 rfl
theorem qX13_park_172 : decode cX13_park 172 = .ok (.getfield 241, 3) := dz2 dzo180 8 0 241 qzbX13_park_164 rfl
theorem qX13_park_175 : decode cX13_park 175 = .ok (.iload_n 2, 1) := dz0 dzo28 11 qzbX13_park_164 rfl
theorem qX13_park_176 : decode cX13_park 176 = .ok (.iaload, 1) := dz0 dzo46 12 qzbX13_park_164 rfl
theorem qX13_park_177 : decode cX13_park 177 = .ok (.iastore, 1) := dz0 dzo79 13 qzbX13_park_164 rfl
theorem qX13_park_178 : decode cX13_park 178 = .ok (.iinc 2 1, 3) := dz5 dzo132 14 2 1 1 rfl qzbX13_park_164 rfl
theorem qX13_park_181 : decode cX13_park 181 = .ok (.goto (-32), 3) := dz4 dzo167 17 255 224 (-32) rfl qzbX13_park_164 rfl
theorem qX13_park_184 : decode cX13_park 184 = .ok (.aload_n 0, 1) := dz0 dzo42 20 qzbX13_park_164 rfl
theorem qX13_park_185 : decode cX13_park 185 = .ok (.iconst 0, 1) := dz0 dzo3 21 qzbX13_park_164 rfl
theorem qzbX13_park_186 : dzB cX13_park 186 [181, 1, 15, 42, 3, 181, 1, 18, 42, 42, 182, 1, 21, 182, 0, 52, 172] := by decide +kernel
theorem qX13_park_186 : decode cX13_park 186 = .ok (.putfield 271, 3) := dz2 dzo181 0 1 15 qzbX13_park_186 rfl
theorem qX13_park_189 : decode cX13_park 189 = .ok (.aload_n 0, 1) := dz0 dzo42 3 qzbX13_park_186 rfl
theorem qX13_park_190 : decode cX13_park 190 = .ok (.iconst 0, 1) := dz0 dzo3 4 qzbX13_park_186 rfl
theorem qX13_park_191 : decode cX13_park 191 = .ok (.putfield 274, 3) := dz2 dzo181 5 1 18 qzbX13_park_186 rfl
theorem qX13_park_194 : decode cX13_park 194 = .ok (.aload_n 0, 1) := dz0 dzo42 8 qzbX13_park_186 rfl
theorem qX13_park_195 : decode cX13_park 195 = .ok (.aload_n 0, 1) := dz0 dzo42 9 qzbX13_park_186 rfl
theorem qX13_park_196 : decode cX13_park 196 = .ok (.invokevirtual 277, 3) := dz2 dzo182 10 1 21 qzbX13_park_186 rfl
theorem qX13_park_199 : decode cX13_park 199 = .ok (.invokevirtual 52, 3) := dz2 dzo182 13 0 52 qzbX13_park_186 rfl
theorem qX13_park_202 : decode cX13_park 202 = .ok (.ireturn, 1) := dz0 dzo172 16 qzbX13_park_186 rfl
theorem qzbX13_passers_0 : dzB cX13_passers 0 [42, 3, 181, 0, 42, 42, 27, 182, 1, 46, 154, 0, 9, 42, 4, 182, 0, 48, 172, 42, 182, 1, 61, 3] := by decide +kernel
theorem qX13_passers_0 : decode cX13_passers 0 = .ok (.aload_n 0, 1) := dz0 dzo42 0 qzbX13_passers_0 rfl
theorem qX13_passers_1 : decode cX13_passers 1 = .ok (.iconst 0, 1) := dz0 dzo3 1 qzbX13_passers_0 rfl
theorem qX13_passers_2 : decode cX13_passers 2 = .ok (.putfield 42, 3) := dz2 dzo181 2 0 42 qzbX13_passers_0 rfl
theorem qX13_passers_5 : decode cX13_passers 5 = .ok (.aload_n 0, 1) := dz0 dzo42 5 qzbX13_passers_0 rfl
theorem qX13_passers_6 : decode cX13_passers 6 = .ok (.iload_n 1, 1) := dz0 dzo27 6 qzbX13_passers_0 rfl
theorem qX13_passers_7 : decode cX13_passers 7 = .ok (.invokevirtual 302, 3) := dz2 dzo182 7 1 46 qzbX13_passers_0 rfl
theorem qX13_passers_10 : decode cX13_passers 10 = .ok (.ifCond .ne 9, 3) := dz4 dzo154 10 0 9 9 rfl qzbX13_passers_0 rfl
theorem qX13_passers_13 : decode cX13_passers 13 = .ok (.aload_n 0, 1) := dz0 dzo42 13 qzbX13_passers_0 rfl
theorem qX13_passers_14 : decode cX13_passers 14 = .ok (.iconst 1, 1) := dz0 dzo4 14 qzbX13_passers_0 rfl
theorem qX13_passers_15 : decode cX13_passers 15 = .ok (.invokevirtual 48, 3) := dz2 dzo182 15 0 48 qzbX13_passers_0 rfl
theorem qX13_passers_18 : decode cX13_passers 18 = .ok (.ireturn, 1) := dz0 dzo172 18 qzbX13_passers_0 rfl
theorem qX13_passers_19 : decode cX13_passers 19 = .ok (.aload_n 0, 1) := dz0 dzo42 19 qzbX13_passers_0 rfl
theorem qX13_passers_20 : decode cX13_passers 20 = .ok (.invokevirtual 317, 3) := dz2 dzo182 20 1 61 qzbX13_passers_0 rfl
theorem qX13_passers_23 : decode cX13_passers 23 = .ok (.iconst 0, 1) := dz0 dzo3 23 qzbX13_passers_0 rfl
theorem qzbX13_passers_24 : dzB cX13_passers 24 [61, 3, 62, 29, 42, 180, 1, 13, 180, 0, 206, 162, 0, 55, 42, 29, 3, 182, 1, 111, 154, 0, 6] := by decide +kernel
theorem qX13_passers_24 : decode cX13_passers 24 = .ok (.istore_n 2, 1) := dz0 dzo61 0 qzbX13_passers_24 rfl
theorem qX13_passers_25 : decode cX13_passers 25 = .ok (.iconst 0, 1) := dz0 dzo3 1 qzbX13_passers_24 rfl
theorem qX13_passers_26 : decode cX13_passers 26 = .ok (.istore_n 3, 1) := dz0 dzo62 2 qzbX13_passers_24 rfl
theorem qX13_passers_27 : decode cX13_passers 27 = .ok (.iload_n 3, 1) := dz0 dzo29 3 qzbX13_passers_24 rfl
theorem qX13_passers_28 : decode cX13_passers 28 = .ok (.aload_n 0, 1) := dz0 dzo42 4 qzbX13_passers_24 rfl
theorem qX13_passers_29 : decode cX13_passers 29 = .ok (.getfield 269, 3) := dz2 dzo180 5 1 13 qzbX13_passers_24 rfl
theorem qX13_passers_32 : decode cX13_passers 32 = .ok (.getfield 206, 3) := dz2 dzo180 8 0 206 qzbX13_passers_24 rfl
theorem qX13_passers_35 : decode cX13_passers 35 = .ok (.if_icmp .ge 55, 3) := dz4 dzo162 11 0 55 55 rfl qzbX13_passers_24 rfl
theorem qX13_passers_38 : decode cX13_passers 38 = .ok (.aload_n 0, 1) := dz0 dzo42 14 qzbX13_passers_24 rfl
theorem qX13_passers_39 : decode cX13_passers 39 = .ok (.iload_n 3, 1) := dz0 dzo29 15 qzbX13_passers_24 rfl
theorem qX13_passers_40 : decode cX13_passers 40 = .ok (.iconst 0, 1) := dz0 dzo3 16 qzbX13_passers_24 rfl
theorem qX13_passers_41 : decode cX13_passers 41 = .ok (.invokevirtual 367, 3) := dz2 dzo182 17 1 111 qzbX13_passers_24 rfl
theorem qX13_passers_44 : decode cX13_passers 44 = .ok (.ifCond .ne 6, 3) := dz4 dzo154 20 0 6 6 rfl qzbX13_passers_24 rfl
theorem qzbX13_passers_47 : dzB cX13_passers 47 [167, 0, 37, 3, 54, 4, 21, 4, 17, 0, 200, 163, 0, 26, 42, 180, 0, 36, 21, 4, 46, 27] := by decide +kernel
theorem qX13_passers_47 : decode cX13_passers 47 = .ok (.goto 37, 3) := dz4 dzo167 0 0 37 37 rfl qzbX13_passers_47 rfl
theorem qX13_passers_50 : decode cX13_passers 50 = .ok (.iconst 0, 1) := dz0 dzo3 3 qzbX13_passers_47 rfl
theorem qX13_passers_51 : decode cX13_passers 51 = .ok (.istore 4, 2) := dz1 dzo54 4 4 qzbX13_passers_47 rfl
theorem qX13_passers_53 : decode cX13_passers 53 = .ok (.iload 4, 2) := dz1 dzo21 6 4 qzbX13_passers_47 rfl
theorem qX13_passers_55 : decode cX13_passers 55 = .ok (.sipush 200, 3) := dz4 dzo17 8 0 200 200 rfl qzbX13_passers_47 rfl
theorem qX13_passers_58 : decode cX13_passers 58 = .ok (.if_icmp .gt 26, 3) := dz4 dzo163 11 0 26 26 rfl qzbX13_passers_47 rfl
theorem qX13_passers_61 : decode cX13_passers 61 = .ok (.aload_n 0, 1) := dz0 dzo42 14 qzbX13_passers_47 rfl
theorem qX13_passers_62 : decode cX13_passers 62 = .ok (.getfield 36, 3) := dz2 dzo180 15 0 36 qzbX13_passers_47 rfl
theorem qX13_passers_65 : decode cX13_passers 65 = .ok (.iload 4, 2) := dz1 dzo21 18 4 qzbX13_passers_47 rfl
theorem qX13_passers_67 : decode cX13_passers 67 = .ok (.iaload, 1) := dz0 dzo46 20 qzbX13_passers_47 rfl
theorem qX13_passers_68 : decode cX13_passers 68 = .ok (.iload_n 1, 1) := dz0 dzo27 21 qzbX13_passers_47 rfl
theorem qzbX13_passers_69 : dzB cX13_passers 69 [160, 0, 9, 28, 4, 29, 120, 128, 61, 132, 4, 1, 167, 255, 228, 132, 3, 1, 167, 255, 196, 42, 28] := by decide +kernel
theorem qX13_passers_69 : decode cX13_passers 69 = .ok (.if_icmp .ne 9, 3) := dz4 dzo160 0 0 9 9 rfl qzbX13_passers_69 rfl
theorem qX13_passers_72 : decode cX13_passers 72 = .ok (.iload_n 2, 1) := dz0 dzo28 3 qzbX13_passers_69 rfl
theorem qX13_passers_73 : decode cX13_passers 73 = .ok (.iconst 1, 1) := dz0 dzo4 4 qzbX13_passers_69 rfl
theorem qX13_passers_74 : decode cX13_passers 74 = .ok (.iload_n 3, 1) := dz0 dzo29 5 qzbX13_passers_69 rfl
theorem qX13_passers_75 : decode cX13_passers 75 = .ok (.ishl, 1) := dz0 dzo120 6 qzbX13_passers_69 rfl
theorem qX13_passers_76 : decode cX13_passers 76 = .ok (.ior, 1) := dz0 dzo128 7 qzbX13_passers_69 rfl
theorem qX13_passers_77 : decode cX13_passers 77 = .ok (.istore_n 2, 1) := dz0 dzo61 8 qzbX13_passers_69 rfl
theorem qX13_passers_78 : decode cX13_passers 78 = .ok (.iinc 4 1, 3) := dz5 dzo132 9 4 1 1 rfl qzbX13_passers_69 rfl
theorem qX13_passers_81 : decode cX13_passers 81 = .ok (.goto (-28), 3) := dz4 dzo167 12 255 228 (-28) rfl qzbX13_passers_69 rfl
theorem qX13_passers_84 : decode cX13_passers 84 = .ok (.iinc 3 1, 3) := dz5 dzo132 15 3 1 1 rfl qzbX13_passers_69 rfl
theorem qX13_passers_87 : decode cX13_passers 87 = .ok (.goto (-60), 3) := dz4 dzo167 18 255 196 (-60) rfl qzbX13_passers_69 rfl
theorem qX13_passers_90 : decode cX13_passers 90 = .ok (.aload_n 0, 1) := dz0 dzo42 21 qzbX13_passers_69 rfl
theorem qX13_passers_91 : decode cX13_passers 91 = .ok (.iload_n 2, 1) := dz0 dzo28 22 qzbX13_passers_69 rfl
theorem qzbX13_passers_92 : dzB cX13_passers 92 [182, 0, 52, 172] := by decide +kernel
theorem qX13_passers_92 : decode cX13_passers 92 = .ok (.invokevirtual 52, 3) := dz2 dzo182 0 0 52 qzbX13_passers_92 rfl
theorem qX13_passers_95 : decode cX13_passers 95 = .ok (.ireturn, 1) := dz0 dzo172 3 qzbX13_passers_92 rfl
theorem qzbX13_place_0 : dzB cX13_place 0 [42, 3, 181, 0, 42, 42, 27, 182, 1, 46, 153, 0, 12, 28, 3, 6, 184, 0, 124, 154, 0, 9, 42, 4] := by decide +kernel
theorem qX13_place_0 : decode cX13_place 0 = .ok (.aload_n 0, 1) := dz0 dzo42 0 qzbX13_place_0 rfl
theorem qX13_place_1 : decode cX13_place 1 = .ok (.iconst 0, 1) := dz0 dzo3 1 qzbX13_place_0 rfl
theorem qX13_place_2 : decode cX13_place 2 = .ok (.putfield 42, 3) := dz2 dzo181 2 0 42 qzbX13_place_0 rfl
theorem qX13_place_5 : decode cX13_place 5 = .ok (.aload_n 0, 1) := dz0 dzo42 5 qzbX13_place_0 rfl
theorem qX13_place_6 : decode cX13_place 6 = .ok (.iload_n 1, 1) := dz0 dzo27 6 qzbX13_place_0 rfl
theorem qX13_place_7 : decode cX13_place 7 = .ok (.invokevirtual 302, 3) := dz2 dzo182 7 1 46 qzbX13_place_0 rfl
theorem qX13_place_10 : decode cX13_place 10 = .ok (.ifCond .eq 12, 3) := dz4 dzo153 10 0 12 12 rfl qzbX13_place_0 rfl
theorem qX13_place_13 : decode cX13_place 13 = .ok (.iload_n 2, 1) := dz0 dzo28 13 qzbX13_place_0 rfl
theorem qX13_place_14 : decode cX13_place 14 = .ok (.iconst 0, 1) := dz0 dzo3 14 qzbX13_place_0 rfl
theorem qX13_place_15 : decode cX13_place 15 = .ok (.iconst 3, 1) := dz0 dzo6 15 qzbX13_place_0 rfl
theorem qX13_place_16 : decode cX13_place 16 = .ok (.invokestatic 124, 3) := dz2 dzo184 16 0 124 qzbX13_place_0 rfl
theorem qX13_place_19 : decode cX13_place 19 = .ok (.ifCond .ne 9, 3) := dz4 dzo154 19 0 9 9 rfl qzbX13_place_0 rfl
theorem qX13_place_22 : decode cX13_place 22 = .ok (.aload_n 0, 1) := dz0 dzo42 22 qzbX13_place_0 rfl
theorem qX13_place_23 : decode cX13_place 23 = .ok (.iconst 1, 1) := dz0 dzo4 23 qzbX13_place_0 rfl
theorem qzbX13_place_24 : dzB cX13_place 24 [182, 0, 48, 172, 42, 28, 154, 0, 12, 42, 180, 0, 17, 27, 46, 167, 0, 46, 28, 4, 160, 0, 22, 42] := by decide +kernel
theorem qX13_place_24 : decode cX13_place 24 = .ok (.invokevirtual 48, 3) := dz2 dzo182 0 0 48 qzbX13_place_24 rfl
theorem qX13_place_27 : decode cX13_place 27 = .ok (.ireturn, 1) := dz0 dzo172 3 qzbX13_place_24 rfl
theorem qX13_place_28 : decode cX13_place 28 = .ok (.aload_n 0, 1) := dz0 dzo42 4 qzbX13_place_24 rfl
theorem qX13_place_29 : decode cX13_place 29 = .ok (.iload_n 2, 1) := dz0 dzo28 5 qzbX13_place_24 rfl
theorem qX13_place_30 : decode cX13_place 30 = .ok (.ifCond .ne 12, 3) := dz4 dzo154 6 0 12 12 rfl qzbX13_place_24 rfl
theorem qX13_place_33 : decode cX13_place 33 = .ok (.aload_n 0, 1) := dz0 dzo42 9 qzbX13_place_24 rfl
theorem qX13_place_34 : decode cX13_place 34 = .ok (.getfield 17, 3) := dz2 dzo180 10 0 17 qzbX13_place_24 rfl
theorem qX13_place_37 : decode cX13_place 37 = .ok (.iload_n 1, 1) := dz0 dzo27 13 qzbX13_place_24 rfl
theorem qX13_place_38 : decode cX13_place 38 = .ok (.iaload, 1) := dz0 dzo46 14 qzbX13_place_24 rfl
theorem qX13_place_39 : decode cX13_place 39 = .ok (.goto 46, 3) := dz4 dzo167 15 0 46 46 rfl qzbX13_place_24 rfl
theorem qX13_place_42 : decode cX13_place 42 = .ok (.iload_n 2, 1) := dz0 dzo28 18 qzbX13_place_24 rfl
theorem qX13_place_43 : decode cX13_place 43 = .ok (.iconst 1, 1) := dz0 dzo4 19 qzbX13_place_24 rfl
theorem qX13_place_44 : decode cX13_place 44 = .ok (.if_icmp .ne 22, 3) := dz4 dzo160 20 0 22 22 rfl qzbX13_place_24 rfl
theorem qX13_place_47 : decode cX13_place 47 = .ok (.aload_n 0, 1) := dz0 dzo42 23 qzbX13_place_24 rfl
theorem qzbX13_place_48 : dzB cX13_place 48 [180, 1, 13, 27, 182, 1, 49, 153, 0, 7, 4, 167, 0, 26, 3, 167, 0, 22, 28, 5, 160, 0, 11, 42] := by decide +kernel
theorem qX13_place_48 : decode cX13_place 48 = .ok (.getfield 269, 3) := dz2 dzo180 0 1 13 qzbX13_place_48 rfl
theorem qX13_place_51 : decode cX13_place 51 = .ok (.iload_n 1, 1) := dz0 dzo27 3 qzbX13_place_48 rfl
theorem qX13_place_52 : decode cX13_place 52 = .ok (.invokevirtual 305, 3) := dz2 dzo182 4 1 49 qzbX13_place_48 rfl
theorem qX13_place_55 : decode cX13_place 55 = .ok (.ifCond .eq 7, 3) := dz4 dzo153 7 0 7 7 rfl qzbX13_place_48 rfl
theorem qX13_place_58 : decode cX13_place 58 = .ok (.iconst 1, 1) := dz0 dzo4 10 qzbX13_place_48 rfl
theorem qX13_place_59 : decode cX13_place 59 = .ok (.goto 26, 3) := dz4 dzo167 11 0 26 26 rfl qzbX13_place_48 rfl
theorem qX13_place_62 : decode cX13_place 62 = .ok (.iconst 0, 1) := dz0 dzo3 14 qzbX13_place_48 rfl
theorem qX13_place_63 : decode cX13_place 63 = .ok (.goto 22, 3) := dz4 dzo167 15 0 22 22 rfl qzbX13_place_48 rfl
theorem qX13_place_66 : decode cX13_place 66 = .ok (.iload_n 2, 1) := dz0 dzo28 18 qzbX13_place_48 rfl
theorem qX13_place_67 : decode cX13_place 67 = .ok (.iconst 2, 1) := dz0 dzo5 19 qzbX13_place_48 rfl
theorem qX13_place_68 : decode cX13_place 68 = .ok (.if_icmp .ne 11, 3) := dz4 dzo160 20 0 11 11 rfl qzbX13_place_48 rfl
theorem qX13_place_71 : decode cX13_place 71 = .ok (.aload_n 0, 1) := dz0 dzo42 23 qzbX13_place_48 rfl
theorem qzbX13_place_72 : dzB cX13_place 72 [27, 182, 1, 52, 167, 0, 9, 42, 27, 5, 182, 1, 24, 182, 0, 52, 172] := by decide +kernel
theorem qX13_place_72 : decode cX13_place 72 = .ok (.iload_n 1, 1) := dz0 dzo27 0 qzbX13_place_72 rfl
theorem qX13_place_73 : decode cX13_place 73 = .ok (.invokevirtual 308, 3) := dz2 dzo182 1 1 52 qzbX13_place_72 rfl
theorem qX13_place_76 : decode cX13_place 76 = .ok (.goto 9, 3) := dz4 dzo167 4 0 9 9 rfl qzbX13_place_72 rfl
theorem qX13_place_79 : decode cX13_place 79 = .ok (.aload_n 0, 1) := dz0 dzo42 7 qzbX13_place_72 rfl
theorem qX13_place_80 : decode cX13_place 80 = .ok (.iload_n 1, 1) := dz0 dzo27 8 qzbX13_place_72 rfl
theorem qX13_place_81 : decode cX13_place 81 = .ok (.iconst 2, 1) := dz0 dzo5 9 qzbX13_place_72 rfl
theorem qX13_place_82 : decode cX13_place 82 = .ok (.invokevirtual 280, 3) := dz2 dzo182 10 1 24 qzbX13_place_72 rfl
theorem qX13_place_85 : decode cX13_place 85 = .ok (.invokevirtual 52, 3) := dz2 dzo182 13 0 52 qzbX13_place_72 rfl
theorem qX13_place_88 : decode cX13_place 88 = .ok (.ireturn, 1) := dz0 dzo172 16 qzbX13_place_72 rfl
theorem qzbX13_places_0 : dzB cX13_places 0 [42, 180, 1, 13, 180, 0, 158, 42, 180, 1, 13, 180, 0, 166, 104, 172] := by decide +kernel
theorem qX13_places_0 : decode cX13_places 0 = .ok (.aload_n 0, 1) := dz0 dzo42 0 qzbX13_places_0 rfl
theorem qX13_places_1 : decode cX13_places 1 = .ok (.getfield 269, 3) := dz2 dzo180 1 1 13 qzbX13_places_0 rfl
theorem qX13_places_4 : decode cX13_places 4 = .ok (.getfield 158, 3) := dz2 dzo180 4 0 158 qzbX13_places_0 rfl
theorem qX13_places_7 : decode cX13_places 7 = .ok (.aload_n 0, 1) := dz0 dzo42 7 qzbX13_places_0 rfl
theorem qX13_places_8 : decode cX13_places 8 = .ok (.getfield 269, 3) := dz2 dzo180 8 1 13 qzbX13_places_0 rfl
theorem qX13_places_11 : decode cX13_places 11 = .ok (.getfield 166, 3) := dz2 dzo180 11 0 166 qzbX13_places_0 rfl
theorem qX13_places_14 : decode cX13_places 14 = .ok (.imul, 1) := dz0 dzo104 14 qzbX13_places_0 rfl
theorem qX13_places_15 : decode cX13_places 15 = .ok (.ireturn, 1) := dz0 dzo172 15 qzbX13_places_0 rfl
theorem qzbX13_quick_0 : dzB cX13_quick 0 [42, 3, 181, 0, 42, 42, 27, 4, 4, 182, 1, 75, 172] := by decide +kernel
theorem qX13_quick_0 : decode cX13_quick 0 = .ok (.aload_n 0, 1) := dz0 dzo42 0 qzbX13_quick_0 rfl
theorem qX13_quick_1 : decode cX13_quick 1 = .ok (.iconst 0, 1) := dz0 dzo3 1 qzbX13_quick_0 rfl
theorem qX13_quick_2 : decode cX13_quick 2 = .ok (.putfield 42, 3) := dz2 dzo181 2 0 42 qzbX13_quick_0 rfl
theorem qX13_quick_5 : decode cX13_quick 5 = .ok (.aload_n 0, 1) := dz0 dzo42 5 qzbX13_quick_0 rfl
theorem qX13_quick_6 : decode cX13_quick 6 = .ok (.iload_n 1, 1) := dz0 dzo27 6 qzbX13_quick_0 rfl
theorem qX13_quick_7 : decode cX13_quick 7 = .ok (.iconst 1, 1) := dz0 dzo4 7 qzbX13_quick_0 rfl
theorem qX13_quick_8 : decode cX13_quick 8 = .ok (.iconst 1, 1) := dz0 dzo4 8 qzbX13_quick_0 rfl
theorem qX13_quick_9 : decode cX13_quick 9 = .ok (.invokevirtual 331, 3) := dz2 dzo182 9 1 75 qzbX13_quick_0 rfl
theorem qX13_quick_12 : decode cX13_quick 12 = .ok (.ireturn, 1) := dz0 dzo172 12 qzbX13_quick_0 rfl
theorem qzbX13_quickAt_0 : dzB cX13_quickAt 0 [42, 3, 181, 0, 42, 42, 27, 28, 4, 182, 1, 79, 172] := by decide +kernel
theorem qX13_quickAt_0 : decode cX13_quickAt 0 = .ok (.aload_n 0, 1) := dz0 dzo42 0 qzbX13_quickAt_0 rfl
theorem qX13_quickAt_1 : decode cX13_quickAt 1 = .ok (.iconst 0, 1) := dz0 dzo3 1 qzbX13_quickAt_0 rfl
theorem qX13_quickAt_2 : decode cX13_quickAt 2 = .ok (.putfield 42, 3) := dz2 dzo181 2 0 42 qzbX13_quickAt_0 rfl
theorem qX13_quickAt_5 : decode cX13_quickAt 5 = .ok (.aload_n 0, 1) := dz0 dzo42 5 qzbX13_quickAt_0 rfl
theorem qX13_quickAt_6 : decode cX13_quickAt 6 = .ok (.iload_n 1, 1) := dz0 dzo27 6 qzbX13_quickAt_0 rfl
theorem qX13_quickAt_7 : decode cX13_quickAt 7 = .ok (.iload_n 2, 1) := dz0 dzo28 7 qzbX13_quickAt_0 rfl
theorem qX13_quickAt_8 : decode cX13_quickAt 8 = .ok (.iconst 1, 1) := dz0 dzo4 8 qzbX13_quickAt_0 rfl
theorem qX13_quickAt_9 : decode cX13_quickAt 9 = .ok (.invokevirtual 335, 3) := dz2 dzo182 9 1 79 qzbX13_quickAt_0 rfl
theorem qX13_quickAt_12 : decode cX13_quickAt 12 = .ok (.ireturn, 1) := dz0 dzo172 12 qzbX13_quickAt_0 rfl
theorem qzbL_law_1035 : dzB cL_law 1035 [167, 3, 121, 43, 182, 0, 127, 87, 44, 182, 0, 130, 87, 167, 3, 108, 43, 42, 21, 4, 4, 96, 46] := by decide +kernel
theorem qL_law_1035 : decode cL_law 1035 = .ok (.goto 889, 3) := dz4 dzo167 0 3 121 889 rfl qzbL_law_1035 rfl
theorem qL_law_1038 : decode cL_law 1038 = .ok (.aload_n 1, 1) := dz0 dzo43 3 qzbL_law_1035 rfl
theorem qL_law_1039 : decode cL_law 1039 = .ok (.invokevirtual 127, 3) := dz2 dzo182 4 0 127 qzbL_law_1035 rfl
theorem qL_law_1042 : decode cL_law 1042 = .ok (.pop, 1) := dz0 dzo87 7 qzbL_law_1035 rfl
theorem qL_law_1043 : decode cL_law 1043 = .ok (.aload_n 2, 1) := dz0 dzo44 8 qzbL_law_1035 rfl
theorem qL_law_1044 : decode cL_law 1044 = .ok (.invokevirtual 130, 3) := dz2 dzo182 9 0 130 qzbL_law_1035 rfl
theorem qL_law_1047 : decode cL_law 1047 = .ok (.pop, 1) := dz0 dzo87 12 qzbL_law_1035 rfl
theorem qL_law_1048 : decode cL_law 1048 = .ok (.goto 876, 3) := dz4 dzo167 13 3 108 876 rfl qzbL_law_1035 rfl
theorem qL_law_1051 : decode cL_law 1051 = .ok (.aload_n 1, 1) := dz0 dzo43 16 qzbL_law_1035 rfl
theorem qL_law_1052 : decode cL_law 1052 = .ok (.aload_n 0, 1) := dz0 dzo42 17 qzbL_law_1035 rfl
theorem qL_law_1053 : decode cL_law 1053 = .ok (.iload 4, 2) := dz1 dzo21 18 4 qzbL_law_1035 rfl
theorem qL_law_1055 : decode cL_law 1055 = .ok (.iconst 1, 1) := dz0 dzo4 20 qzbL_law_1035 rfl
theorem qL_law_1056 : decode cL_law 1056 = .ok (.iadd, 1) := dz0 dzo96 21 qzbL_law_1035 rfl
theorem qL_law_1057 : decode cL_law 1057 = .ok (.iaload, 1) := dz0 dzo46 22 qzbL_law_1035 rfl
theorem qzbL_law_1058 : dzB cL_law 1058 [182, 0, 131, 87, 44, 42, 21, 4, 4, 96, 46, 182, 0, 134, 87, 167, 3, 83, 43, 42, 21, 4, 4, 96] := by decide +kernel
theorem qL_law_1058 : decode cL_law 1058 = .ok (.invokevirtual 131, 3) := dz2 dzo182 0 0 131 qzbL_law_1058 rfl
theorem qL_law_1061 : decode cL_law 1061 = .ok (.pop, 1) := dz0 dzo87 3 qzbL_law_1058 rfl
theorem qL_law_1062 : decode cL_law 1062 = .ok (.aload_n 2, 1) := dz0 dzo44 4 qzbL_law_1058 rfl
theorem qL_law_1063 : decode cL_law 1063 = .ok (.aload_n 0, 1) := dz0 dzo42 5 qzbL_law_1058 rfl
theorem qL_law_1064 : decode cL_law 1064 = .ok (.iload 4, 2) := dz1 dzo21 6 4 qzbL_law_1058 rfl
theorem qL_law_1066 : decode cL_law 1066 = .ok (.iconst 1, 1) := dz0 dzo4 8 qzbL_law_1058 rfl
theorem qL_law_1067 : decode cL_law 1067 = .ok (.iadd, 1) := dz0 dzo96 9 qzbL_law_1058 rfl
theorem qL_law_1068 : decode cL_law 1068 = .ok (.iaload, 1) := dz0 dzo46 10 qzbL_law_1058 rfl
theorem qL_law_1069 : decode cL_law 1069 = .ok (.invokevirtual 134, 3) := dz2 dzo182 11 0 134 qzbL_law_1058 rfl
theorem qL_law_1072 : decode cL_law 1072 = .ok (.pop, 1) := dz0 dzo87 14 qzbL_law_1058 rfl
theorem qL_law_1073 : decode cL_law 1073 = .ok (.goto 851, 3) := dz4 dzo167 15 3 83 851 rfl qzbL_law_1058 rfl
theorem qL_law_1076 : decode cL_law 1076 = .ok (.aload_n 1, 1) := dz0 dzo43 18 qzbL_law_1058 rfl
theorem qL_law_1077 : decode cL_law 1077 = .ok (.aload_n 0, 1) := dz0 dzo42 19 qzbL_law_1058 rfl
theorem qL_law_1078 : decode cL_law 1078 = .ok (.iload 4, 2) := dz1 dzo21 20 4 qzbL_law_1058 rfl
theorem qL_law_1080 : decode cL_law 1080 = .ok (.iconst 1, 1) := dz0 dzo4 22 qzbL_law_1058 rfl
theorem qL_law_1081 : decode cL_law 1081 = .ok (.iadd, 1) := dz0 dzo96 23 qzbL_law_1058 rfl
theorem qzbL_law_1082 : dzB cL_law 1082 [46, 42, 21, 4, 5, 96, 46, 153, 0, 7, 4, 167, 0, 4, 3, 182, 0, 135, 88, 44, 42, 21, 4, 4] := by decide +kernel
theorem qL_law_1082 : decode cL_law 1082 = .ok (.iaload, 1) := dz0 dzo46 0 qzbL_law_1082 rfl
theorem qL_law_1083 : decode cL_law 1083 = .ok (.aload_n 0, 1) := dz0 dzo42 1 qzbL_law_1082 rfl
theorem qL_law_1084 : decode cL_law 1084 = .ok (.iload 4, 2) := dz1 dzo21 2 4 qzbL_law_1082 rfl
theorem qL_law_1086 : decode cL_law 1086 = .ok (.iconst 2, 1) := dz0 dzo5 4 qzbL_law_1082 rfl
theorem qL_law_1087 : decode cL_law 1087 = .ok (.iadd, 1) := dz0 dzo96 5 qzbL_law_1082 rfl
theorem qL_law_1088 : decode cL_law 1088 = .ok (.iaload, 1) := dz0 dzo46 6 qzbL_law_1082 rfl
theorem qL_law_1089 : decode cL_law 1089 = .ok (.ifCond .eq 7, 3) := dz4 dzo153 7 0 7 7 rfl qzbL_law_1082 rfl
theorem qL_law_1092 : decode cL_law 1092 = .ok (.iconst 1, 1) := dz0 dzo4 10 qzbL_law_1082 rfl
theorem qL_law_1093 : decode cL_law 1093 = .ok (.goto 4, 3) := dz4 dzo167 11 0 4 4 rfl qzbL_law_1082 rfl
theorem qL_law_1096 : decode cL_law 1096 = .ok (.iconst 0, 1) := dz0 dzo3 14 qzbL_law_1082 rfl
theorem qL_law_1097 : decode cL_law 1097 = .ok (.invokevirtual 135, 3) := dz2 dzo182 15 0 135 qzbL_law_1082 rfl
theorem qL_law_1100 : decode cL_law 1100 = .ok (.pop2, 1) := dz0 dzo88 18 qzbL_law_1082 rfl
theorem qL_law_1101 : decode cL_law 1101 = .ok (.aload_n 2, 1) := dz0 dzo44 19 qzbL_law_1082 rfl
theorem qL_law_1102 : decode cL_law 1102 = .ok (.aload_n 0, 1) := dz0 dzo42 20 qzbL_law_1082 rfl
theorem qL_law_1103 : decode cL_law 1103 = .ok (.iload 4, 2) := dz1 dzo21 21 4 qzbL_law_1082 rfl
theorem qL_law_1105 : decode cL_law 1105 = .ok (.iconst 1, 1) := dz0 dzo4 23 qzbL_law_1082 rfl
theorem qzbL_law_1106 : dzB cL_law 1106 [96, 46, 42, 21, 4, 5, 96, 46, 153, 0, 7, 4, 167, 0, 4, 3, 182, 0, 139, 88, 167, 3, 30, 43] := by decide +kernel
theorem qL_law_1106 : decode cL_law 1106 = .ok (.iadd, 1) := dz0 dzo96 0 qzbL_law_1106 rfl
theorem qL_law_1107 : decode cL_law 1107 = .ok (.iaload, 1) := dz0 dzo46 1 qzbL_law_1106 rfl
theorem qL_law_1108 : decode cL_law 1108 = .ok (.aload_n 0, 1) := dz0 dzo42 2 qzbL_law_1106 rfl
theorem qL_law_1109 : decode cL_law 1109 = .ok (.iload 4, 2) := dz1 dzo21 3 4 qzbL_law_1106 rfl
theorem qL_law_1111 : decode cL_law 1111 = .ok (.iconst 2, 1) := dz0 dzo5 5 qzbL_law_1106 rfl
theorem qL_law_1112 : decode cL_law 1112 = .ok (.iadd, 1) := dz0 dzo96 6 qzbL_law_1106 rfl
theorem qL_law_1113 : decode cL_law 1113 = .ok (.iaload, 1) := dz0 dzo46 7 qzbL_law_1106 rfl
theorem qL_law_1114 : decode cL_law 1114 = .ok (.ifCond .eq 7, 3) := dz4 dzo153 8 0 7 7 rfl qzbL_law_1106 rfl
theorem qL_law_1117 : decode cL_law 1117 = .ok (.iconst 1, 1) := dz0 dzo4 11 qzbL_law_1106 rfl
theorem qL_law_1118 : decode cL_law 1118 = .ok (.goto 4, 3) := dz4 dzo167 12 0 4 4 rfl qzbL_law_1106 rfl
theorem qL_law_1121 : decode cL_law 1121 = .ok (.iconst 0, 1) := dz0 dzo3 15 qzbL_law_1106 rfl
theorem qL_law_1122 : decode cL_law 1122 = .ok (.invokevirtual 139, 3) := dz2 dzo182 16 0 139 qzbL_law_1106 rfl
theorem qL_law_1125 : decode cL_law 1125 = .ok (.pop2, 1) := dz0 dzo88 19 qzbL_law_1106 rfl
theorem qL_law_1126 : decode cL_law 1126 = .ok (.goto 798, 3) := dz4 dzo167 20 3 30 798 rfl qzbL_law_1106 rfl
theorem qL_law_1129 : decode cL_law 1129 = .ok (.aload_n 1, 1) := dz0 dzo43 23 qzbL_law_1106 rfl
theorem qzbL_law_1130 : dzB cL_law 1130 [182, 0, 140, 87, 44, 182, 0, 143, 87, 167, 3, 17, 43, 182, 0, 144, 87, 44, 182, 0, 147, 87] := by decide +kernel
theorem qL_law_1130 : decode cL_law 1130 = .ok (.invokevirtual 140, 3) := dz2 dzo182 0 0 140 qzbL_law_1130 rfl
theorem qL_law_1133 : decode cL_law 1133 = .ok (.pop, 1) := dz0 dzo87 3 qzbL_law_1130 rfl
theorem qL_law_1134 : decode cL_law 1134 = .ok (.aload_n 2, 1) := dz0 dzo44 4 qzbL_law_1130 rfl
theorem qL_law_1135 : decode cL_law 1135 = .ok (.invokevirtual 143, 3) := dz2 dzo182 5 0 143 qzbL_law_1130 rfl
theorem qL_law_1138 : decode cL_law 1138 = .ok (.pop, 1) := dz0 dzo87 8 qzbL_law_1130 rfl
theorem qL_law_1139 : decode cL_law 1139 = .ok (.goto 785, 3) := dz4 dzo167 9 3 17 785 rfl qzbL_law_1130 rfl
theorem qL_law_1142 : decode cL_law 1142 = .ok (.aload_n 1, 1) := dz0 dzo43 12 qzbL_law_1130 rfl
theorem qL_law_1143 : decode cL_law 1143 = .ok (.invokevirtual 144, 3) := dz2 dzo182 13 0 144 qzbL_law_1130 rfl
theorem qL_law_1146 : decode cL_law 1146 = .ok (.pop, 1) := dz0 dzo87 16 qzbL_law_1130 rfl
theorem qL_law_1147 : decode cL_law 1147 = .ok (.aload_n 2, 1) := dz0 dzo44 17 qzbL_law_1130 rfl
theorem qL_law_1148 : decode cL_law 1148 = .ok (.invokevirtual 147, 3) := dz2 dzo182 18 0 147 qzbL_law_1130 rfl
theorem qL_law_1151 : decode cL_law 1151 = .ok (.pop, 1) := dz0 dzo87 21 qzbL_law_1130 rfl
theorem qzbL_law_1152 : dzB cL_law 1152 [167, 3, 4, 43, 182, 0, 148, 87, 44, 182, 0, 151, 87, 167, 2, 247, 43, 182, 0, 152, 87, 44] := by decide +kernel
theorem qL_law_1152 : decode cL_law 1152 = .ok (.goto 772, 3) := dz4 dzo167 0 3 4 772 rfl qzbL_law_1152 rfl
theorem qL_law_1155 : decode cL_law 1155 = .ok (.aload_n 1, 1) := dz0 dzo43 3 qzbL_law_1152 rfl
theorem qL_law_1156 : decode cL_law 1156 = .ok (.invokevirtual 148, 3) := dz2 dzo182 4 0 148 qzbL_law_1152 rfl
theorem qL_law_1159 : decode cL_law 1159 = .ok (.pop, 1) := dz0 dzo87 7 qzbL_law_1152 rfl
theorem qL_law_1160 : decode cL_law 1160 = .ok (.aload_n 2, 1) := dz0 dzo44 8 qzbL_law_1152 rfl
theorem qL_law_1161 : decode cL_law 1161 = .ok (.invokevirtual 151, 3) := dz2 dzo182 9 0 151 qzbL_law_1152 rfl
theorem qL_law_1164 : decode cL_law 1164 = .ok (.pop, 1) := dz0 dzo87 12 qzbL_law_1152 rfl
theorem qL_law_1165 : decode cL_law 1165 = .ok (.goto 759, 3) := dz4 dzo167 13 2 247 759 rfl qzbL_law_1152 rfl
theorem qL_law_1168 : decode cL_law 1168 = .ok (.aload_n 1, 1) := dz0 dzo43 16 qzbL_law_1152 rfl
theorem qL_law_1169 : decode cL_law 1169 = .ok (.invokevirtual 152, 3) := dz2 dzo182 17 0 152 qzbL_law_1152 rfl
theorem qL_law_1172 : decode cL_law 1172 = .ok (.pop, 1) := dz0 dzo87 20 qzbL_law_1152 rfl
theorem qL_law_1173 : decode cL_law 1173 = .ok (.aload_n 2, 1) := dz0 dzo44 21 qzbL_law_1152 rfl
theorem qzbL_law_1174 : dzB cL_law 1174 [182, 0, 155, 87, 167, 2, 234, 43, 42, 21, 4, 4, 96, 46, 42, 21, 4, 5, 96, 46, 42, 21, 4, 6] := by decide +kernel
theorem qL_law_1174 : decode cL_law 1174 = .ok (.invokevirtual 155, 3) := dz2 dzo182 0 0 155 qzbL_law_1174 rfl
theorem qL_law_1177 : decode cL_law 1177 = .ok (.pop, 1) := dz0 dzo87 3 qzbL_law_1174 rfl
theorem qL_law_1178 : decode cL_law 1178 = .ok (.goto 746, 3) := dz4 dzo167 4 2 234 746 rfl qzbL_law_1174 rfl
theorem qL_law_1181 : decode cL_law 1181 = .ok (.aload_n 1, 1) := dz0 dzo43 7 qzbL_law_1174 rfl
theorem qL_law_1182 : decode cL_law 1182 = .ok (.aload_n 0, 1) := dz0 dzo42 8 qzbL_law_1174 rfl
theorem qL_law_1183 : decode cL_law 1183 = .ok (.iload 4, 2) := dz1 dzo21 9 4 qzbL_law_1174 rfl
theorem qL_law_1185 : decode cL_law 1185 = .ok (.iconst 1, 1) := dz0 dzo4 11 qzbL_law_1174 rfl
theorem qL_law_1186 : decode cL_law 1186 = .ok (.iadd, 1) := dz0 dzo96 12 qzbL_law_1174 rfl
theorem qL_law_1187 : decode cL_law 1187 = .ok (.iaload, 1) := dz0 dzo46 13 qzbL_law_1174 rfl
theorem qL_law_1188 : decode cL_law 1188 = .ok (.aload_n 0, 1) := dz0 dzo42 14 qzbL_law_1174 rfl
theorem qL_law_1189 : decode cL_law 1189 = .ok (.iload 4, 2) := dz1 dzo21 15 4 qzbL_law_1174 rfl
theorem qL_law_1191 : decode cL_law 1191 = .ok (.iconst 2, 1) := dz0 dzo5 17 qzbL_law_1174 rfl
theorem qL_law_1192 : decode cL_law 1192 = .ok (.iadd, 1) := dz0 dzo96 18 qzbL_law_1174 rfl
theorem qL_law_1193 : decode cL_law 1193 = .ok (.iaload, 1) := dz0 dzo46 19 qzbL_law_1174 rfl
theorem qL_law_1194 : decode cL_law 1194 = .ok (.aload_n 0, 1) := dz0 dzo42 20 qzbL_law_1174 rfl
theorem qL_law_1195 : decode cL_law 1195 = .ok (.iload 4, 2) := dz1 dzo21 21 4 qzbL_law_1174 rfl
theorem qL_law_1197 : decode cL_law 1197 = .ok (.iconst 3, 1) := dz0 dzo6 23 qzbL_law_1174 rfl
theorem qzbL_law_1198 : dzB cL_law 1198 [96, 46, 153, 0, 7, 4, 167, 0, 4, 3, 182, 0, 156, 88, 44, 42, 21, 4, 4, 96, 46, 42, 21, 4] := by decide +kernel
theorem qL_law_1198 : decode cL_law 1198 = .ok (.iadd, 1) := dz0 dzo96 0 qzbL_law_1198 rfl
theorem qL_law_1199 : decode cL_law 1199 = .ok (.iaload, 1) := dz0 dzo46 1 qzbL_law_1198 rfl
theorem qL_law_1200 : decode cL_law 1200 = .ok (.ifCond .eq 7, 3) := dz4 dzo153 2 0 7 7 rfl qzbL_law_1198 rfl
theorem qL_law_1203 : decode cL_law 1203 = .ok (.iconst 1, 1) := dz0 dzo4 5 qzbL_law_1198 rfl
theorem qL_law_1204 : decode cL_law 1204 = .ok (.goto 4, 3) := dz4 dzo167 6 0 4 4 rfl qzbL_law_1198 rfl
theorem qL_law_1207 : decode cL_law 1207 = .ok (.iconst 0, 1) := dz0 dzo3 9 qzbL_law_1198 rfl
theorem qL_law_1208 : decode cL_law 1208 = .ok (.invokevirtual 156, 3) := dz2 dzo182 10 0 156 qzbL_law_1198 rfl
theorem qL_law_1211 : decode cL_law 1211 = .ok (.pop2, 1) := dz0 dzo88 13 qzbL_law_1198 rfl
theorem qL_law_1212 : decode cL_law 1212 = .ok (.aload_n 2, 1) := dz0 dzo44 14 qzbL_law_1198 rfl
theorem qL_law_1213 : decode cL_law 1213 = .ok (.aload_n 0, 1) := dz0 dzo42 15 qzbL_law_1198 rfl
theorem qL_law_1214 : decode cL_law 1214 = .ok (.iload 4, 2) := dz1 dzo21 16 4 qzbL_law_1198 rfl
theorem qL_law_1216 : decode cL_law 1216 = .ok (.iconst 1, 1) := dz0 dzo4 18 qzbL_law_1198 rfl
theorem qL_law_1217 : decode cL_law 1217 = .ok (.iadd, 1) := dz0 dzo96 19 qzbL_law_1198 rfl
theorem qL_law_1218 : decode cL_law 1218 = .ok (.iaload, 1) := dz0 dzo46 20 qzbL_law_1198 rfl
theorem qL_law_1219 : decode cL_law 1219 = .ok (.aload_n 0, 1) := dz0 dzo42 21 qzbL_law_1198 rfl
theorem qL_law_1220 : decode cL_law 1220 = .ok (.iload 4, 2) := dz1 dzo21 22 4 qzbL_law_1198 rfl
theorem qzbL_law_1222 : dzB cL_law 1222 [5, 96, 46, 42, 21, 4, 6, 96, 46, 153, 0, 7, 4, 167, 0, 4, 3, 182, 0, 160, 88, 167, 2, 169] := by decide +kernel
theorem qL_law_1222 : decode cL_law 1222 = .ok (.iconst 2, 1) := dz0 dzo5 0 qzbL_law_1222 rfl
theorem qL_law_1223 : decode cL_law 1223 = .ok (.iadd, 1) := dz0 dzo96 1 qzbL_law_1222 rfl
theorem qL_law_1224 : decode cL_law 1224 = .ok (.iaload, 1) := dz0 dzo46 2 qzbL_law_1222 rfl
theorem qL_law_1225 : decode cL_law 1225 = .ok (.aload_n 0, 1) := dz0 dzo42 3 qzbL_law_1222 rfl
theorem qL_law_1226 : decode cL_law 1226 = .ok (.iload 4, 2) := dz1 dzo21 4 4 qzbL_law_1222 rfl
theorem qL_law_1228 : decode cL_law 1228 = .ok (.iconst 3, 1) := dz0 dzo6 6 qzbL_law_1222 rfl
theorem qL_law_1229 : decode cL_law 1229 = .ok (.iadd, 1) := dz0 dzo96 7 qzbL_law_1222 rfl
theorem qL_law_1230 : decode cL_law 1230 = .ok (.iaload, 1) := dz0 dzo46 8 qzbL_law_1222 rfl
theorem qL_law_1231 : decode cL_law 1231 = .ok (.ifCond .eq 7, 3) := dz4 dzo153 9 0 7 7 rfl qzbL_law_1222 rfl
theorem qL_law_1234 : decode cL_law 1234 = .ok (.iconst 1, 1) := dz0 dzo4 12 qzbL_law_1222 rfl
theorem qL_law_1235 : decode cL_law 1235 = .ok (.goto 4, 3) := dz4 dzo167 13 0 4 4 rfl qzbL_law_1222 rfl
theorem qL_law_1238 : decode cL_law 1238 = .ok (.iconst 0, 1) := dz0 dzo3 16 qzbL_law_1222 rfl
theorem qL_law_1239 : decode cL_law 1239 = .ok (.invokevirtual 160, 3) := dz2 dzo182 17 0 160 qzbL_law_1222 rfl
theorem qL_law_1242 : decode cL_law 1242 = .ok (.pop2, 1) := dz0 dzo88 20 qzbL_law_1222 rfl
theorem qL_law_1243 : decode cL_law 1243 = .ok (.goto 681, 3) := dz4 dzo167 21 2 169 681 rfl qzbL_law_1222 rfl
theorem qzbL_law_1246 : dzB cL_law 1246 [43, 42, 21, 4, 4, 96, 46, 42, 21, 4, 5, 96, 46, 153, 0, 7, 4, 167, 0, 4, 3, 42, 21, 4] := by decide +kernel
theorem qL_law_1246 : decode cL_law 1246 = .ok (.aload_n 1, 1) := dz0 dzo43 0 qzbL_law_1246 rfl
theorem qL_law_1247 : decode cL_law 1247 = .ok (.aload_n 0, 1) := dz0 dzo42 1 qzbL_law_1246 rfl
theorem qL_law_1248 : decode cL_law 1248 = .ok (.iload 4, 2) := dz1 dzo21 2 4 qzbL_law_1246 rfl
theorem qL_law_1250 : decode cL_law 1250 = .ok (.iconst 1, 1) := dz0 dzo4 4 qzbL_law_1246 rfl
theorem qL_law_1251 : decode cL_law 1251 = .ok (.iadd, 1) := dz0 dzo96 5 qzbL_law_1246 rfl
theorem qL_law_1252 : decode cL_law 1252 = .ok (.iaload, 1) := dz0 dzo46 6 qzbL_law_1246 rfl
theorem qL_law_1253 : decode cL_law 1253 = .ok (.aload_n 0, 1) := dz0 dzo42 7 qzbL_law_1246 rfl
theorem qL_law_1254 : decode cL_law 1254 = .ok (.iload 4, 2) := dz1 dzo21 8 4 qzbL_law_1246 rfl
theorem qL_law_1256 : decode cL_law 1256 = .ok (.iconst 2, 1) := dz0 dzo5 10 qzbL_law_1246 rfl
theorem qL_law_1257 : decode cL_law 1257 = .ok (.iadd, 1) := dz0 dzo96 11 qzbL_law_1246 rfl
theorem qL_law_1258 : decode cL_law 1258 = .ok (.iaload, 1) := dz0 dzo46 12 qzbL_law_1246 rfl
theorem qL_law_1259 : decode cL_law 1259 = .ok (.ifCond .eq 7, 3) := dz4 dzo153 13 0 7 7 rfl qzbL_law_1246 rfl
theorem qL_law_1262 : decode cL_law 1262 = .ok (.iconst 1, 1) := dz0 dzo4 16 qzbL_law_1246 rfl
theorem qL_law_1263 : decode cL_law 1263 = .ok (.goto 4, 3) := dz4 dzo167 17 0 4 4 rfl qzbL_law_1246 rfl
theorem qL_law_1266 : decode cL_law 1266 = .ok (.iconst 0, 1) := dz0 dzo3 20 qzbL_law_1246 rfl
theorem qL_law_1267 : decode cL_law 1267 = .ok (.aload_n 0, 1) := dz0 dzo42 21 qzbL_law_1246 rfl
theorem qL_law_1268 : decode cL_law 1268 = .ok (.iload 4, 2) := dz1 dzo21 22 4 qzbL_law_1246 rfl
theorem qzbL_law_1270 : dzB cL_law 1270 [6, 96, 46, 153, 0, 7, 4, 167, 0, 4, 3, 42, 21, 4, 7, 96, 46, 153, 0, 7, 4, 167, 0, 4] := by decide +kernel
theorem qL_law_1270 : decode cL_law 1270 = .ok (.iconst 3, 1) := dz0 dzo6 0 qzbL_law_1270 rfl
theorem qL_law_1271 : decode cL_law 1271 = .ok (.iadd, 1) := dz0 dzo96 1 qzbL_law_1270 rfl
theorem qL_law_1272 : decode cL_law 1272 = .ok (.iaload, 1) := dz0 dzo46 2 qzbL_law_1270 rfl
theorem qL_law_1273 : decode cL_law 1273 = .ok (.ifCond .eq 7, 3) := dz4 dzo153 3 0 7 7 rfl qzbL_law_1270 rfl
theorem qL_law_1276 : decode cL_law 1276 = .ok (.iconst 1, 1) := dz0 dzo4 6 qzbL_law_1270 rfl
theorem qL_law_1277 : decode cL_law 1277 = .ok (.goto 4, 3) := dz4 dzo167 7 0 4 4 rfl qzbL_law_1270 rfl
theorem qL_law_1280 : decode cL_law 1280 = .ok (.iconst 0, 1) := dz0 dzo3 10 qzbL_law_1270 rfl
theorem qL_law_1281 : decode cL_law 1281 = .ok (.aload_n 0, 1) := dz0 dzo42 11 qzbL_law_1270 rfl
theorem qL_law_1282 : decode cL_law 1282 = .ok (.iload 4, 2) := dz1 dzo21 12 4 qzbL_law_1270 rfl
theorem qL_law_1284 : decode cL_law 1284 = .ok (.iconst 4, 1) := dz0 dzo7 14 qzbL_law_1270 rfl
theorem qL_law_1285 : decode cL_law 1285 = .ok (.iadd, 1) := dz0 dzo96 15 qzbL_law_1270 rfl
theorem qL_law_1286 : decode cL_law 1286 = .ok (.iaload, 1) := dz0 dzo46 16 qzbL_law_1270 rfl
theorem qL_law_1287 : decode cL_law 1287 = .ok (.ifCond .eq 7, 3) := dz4 dzo153 17 0 7 7 rfl qzbL_law_1270 rfl
theorem qL_law_1290 : decode cL_law 1290 = .ok (.iconst 1, 1) := dz0 dzo4 20 qzbL_law_1270 rfl
theorem qL_law_1291 : decode cL_law 1291 = .ok (.goto 4, 3) := dz4 dzo167 21 0 4 4 rfl qzbL_law_1270 rfl
theorem qzbL_law_1294 : dzB cL_law 1294 [3, 182, 0, 161, 87, 44, 42, 21, 4, 4, 96, 46, 42, 21, 4, 5, 96, 46, 153, 0, 7, 4] := by decide +kernel
theorem qL_law_1294 : decode cL_law 1294 = .ok (.iconst 0, 1) := dz0 dzo3 0 qzbL_law_1294 rfl
theorem qL_law_1295 : decode cL_law 1295 = .ok (.invokevirtual 161, 3) := dz2 dzo182 1 0 161 qzbL_law_1294 rfl
theorem qL_law_1298 : decode cL_law 1298 = .ok (.pop, 1) := dz0 dzo87 4 qzbL_law_1294 rfl
theorem qL_law_1299 : decode cL_law 1299 = .ok (.aload_n 2, 1) := dz0 dzo44 5 qzbL_law_1294 rfl
theorem qL_law_1300 : decode cL_law 1300 = .ok (.aload_n 0, 1) := dz0 dzo42 6 qzbL_law_1294 rfl
theorem qL_law_1301 : decode cL_law 1301 = .ok (.iload 4, 2) := dz1 dzo21 7 4 qzbL_law_1294 rfl
theorem qL_law_1303 : decode cL_law 1303 = .ok (.iconst 1, 1) := dz0 dzo4 9 qzbL_law_1294 rfl
theorem qL_law_1304 : decode cL_law 1304 = .ok (.iadd, 1) := dz0 dzo96 10 qzbL_law_1294 rfl
theorem qL_law_1305 : decode cL_law 1305 = .ok (.iaload, 1) := dz0 dzo46 11 qzbL_law_1294 rfl
theorem qL_law_1306 : decode cL_law 1306 = .ok (.aload_n 0, 1) := dz0 dzo42 12 qzbL_law_1294 rfl
theorem qL_law_1307 : decode cL_law 1307 = .ok (.iload 4, 2) := dz1 dzo21 13 4 qzbL_law_1294 rfl
theorem qL_law_1309 : decode cL_law 1309 = .ok (.iconst 2, 1) := dz0 dzo5 15 qzbL_law_1294 rfl
theorem qL_law_1310 : decode cL_law 1310 = .ok (.iadd, 1) := dz0 dzo96 16 qzbL_law_1294 rfl
theorem qL_law_1311 : decode cL_law 1311 = .ok (.iaload, 1) := dz0 dzo46 17 qzbL_law_1294 rfl
theorem qL_law_1312 : decode cL_law 1312 = .ok (.ifCond .eq 7, 3) := dz4 dzo153 18 0 7 7 rfl qzbL_law_1294 rfl
theorem qL_law_1315 : decode cL_law 1315 = .ok (.iconst 1, 1) := dz0 dzo4 21 qzbL_law_1294 rfl
theorem qzbL_law_1316 : dzB cL_law 1316 [167, 0, 4, 3, 42, 21, 4, 6, 96, 46, 153, 0, 7, 4, 167, 0, 4, 3, 42, 21, 4, 7, 96, 46] := by decide +kernel
theorem qL_law_1316 : decode cL_law 1316 = .ok (.goto 4, 3) := dz4 dzo167 0 0 4 4 rfl qzbL_law_1316 rfl
theorem qL_law_1319 : decode cL_law 1319 = .ok (.iconst 0, 1) := dz0 dzo3 3 qzbL_law_1316 rfl
theorem qL_law_1320 : decode cL_law 1320 = .ok (.aload_n 0, 1) := dz0 dzo42 4 qzbL_law_1316 rfl
theorem qL_law_1321 : decode cL_law 1321 = .ok (.iload 4, 2) := dz1 dzo21 5 4 qzbL_law_1316 rfl
theorem qL_law_1323 : decode cL_law 1323 = .ok (.iconst 3, 1) := dz0 dzo6 7 qzbL_law_1316 rfl
theorem qL_law_1324 : decode cL_law 1324 = .ok (.iadd, 1) := dz0 dzo96 8 qzbL_law_1316 rfl
theorem qL_law_1325 : decode cL_law 1325 = .ok (.iaload, 1) := dz0 dzo46 9 qzbL_law_1316 rfl

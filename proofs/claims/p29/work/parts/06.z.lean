abbrev dzB (c : ByteArray) (p : Nat) (l : List Nat) : Prop := ((c.data.toList.drop p).take l.length).map UInt8.toNat = l
def dzOf (c : ByteArray) (q : Nat) : Option Nat := (c.data.toList[q]?).map UInt8.toNat
theorem dzB_at {c : ByteArray} {p : Nat} {l x : List Nat} {j b : Nat} (k : Nat) (h : dzB c p l) (h2 : l.drop j = x) (hx : x[k]? = some b) : dzOf c (p + j + k) = some b := by
  have e : l[j + k]? = some b := by
    rw [← h2, List.getElem?_drop] at hx
    exact hx
  have h' : ((c.data.toList.drop p).take l.length).map UInt8.toNat = l := h
  have e2 : (((c.data.toList.drop p).take l.length).map UInt8.toNat)[j + k]? = some b := by
    rw [h']; exact e
  rw [List.getElem?_map, List.getElem?_take] at e2
  split at e2
  · rw [List.getElem?_drop] at e2
    unfold dzOf
    rw [Nat.add_assoc]
    exact e2
  · cases e2
theorem dz_u1 {c : ByteArray} {q b : Nat} (h : dzOf c q = some b) : (Reader.u1 : Reader DecodeError Nat) c q = .ok (b, q + 1) := by
  unfold dzOf at h
  cases hg : c.data.toList[q]? with
  | none => rw [hg] at h; cases h
  | some v =>
    rw [hg] at h
    have hb : v.toNat = b := Option.some.inj h
    obtain ⟨hl, hv⟩ := List.getElem?_eq_some_iff.mp hg
    have hq : q < c.size := by simpa using hl
    have hx : c[q] = v := hv
    show (do if h : q < c.size then do set (q + 1); Pure.pure c[q].toNat else MonadExcept.throw (HasTruncated.truncated q) : Reader DecodeError Nat) c q = _
    rw [dif_pos hq]
    show Except.ok (c[q].toNat, q + 1) = _
    rw [hx, hb]
theorem dz_bind {α β : Type} {r : Reader DecodeError α} {f : α → Reader DecodeError β} {c : ByteArray} {q q' : Nat} {a : α} (h : r c q = .ok (a, q')) : (r >>= f) c q = f a c q' := by
  have e : (r >>= f) c q = (match r c q with | .error e => Except.error e | .ok (a, s) => f a c s) := by
    show (do let (a, s) ← r c q; f a c s : Except DecodeError (β × Nat)) = _
    cases r c q <;> rfl
  rw [h] at e
  exact e
theorem dz_map {α β : Type} {r : Reader DecodeError α} {g : α → β} {c : ByteArray} {q q' : Nat} {a : α} (h : r c q = .ok (a, q')) : (g <$> r) c q = .ok (g a, q') := by
  have e : (g <$> r) c q = (match r c q with | .error e => Except.error e | .ok (a, s) => .ok (g a, s)) := by
    show (do let (a, s) ← r c q; .ok (g a, s) : Except DecodeError (β × Nat)) = _
    cases r c q <;> rfl
  rw [h] at e
  exact e
theorem dz_u2 {c : ByteArray} {q a b : Nat} (h : dzOf c q = some a) (h2 : dzOf c (q + 1) = some b) : (Reader.u2 : Reader DecodeError Nat) c q = .ok (a * 256 + b, q + 2) := by
  show (Reader.u1 >>= fun hi => Reader.u1 >>= fun lo => Pure.pure (hi * 256 + lo) : Reader DecodeError Nat) c q = _
  refine (dz_bind (dz_u1 h)).trans ?_
  exact (dz_bind (dz_u1 h2)).trans rfl
theorem dz_s1 {c : ByteArray} {q a : Nat} {v : Int} (h : dzOf c q = some a) (hv : Reader.signed 8 a = v) : (Reader.s1 : Reader DecodeError Int) c q = .ok (v, q + 1) := by
  rw [← hv]
  exact dz_map (dz_u1 h)
theorem dz_s2 {c : ByteArray} {q a b : Nat} {v : Int} (h : dzOf c q = some a) (h2 : dzOf c (q + 1) = some b) (hv : Reader.signed 16 (a * 256 + b) = v) : (Reader.s2 : Reader DecodeError Int) c q = .ok (v, q + 2) := by
  rw [← hv]
  exact dz_map (dz_u2 h h2)
theorem dz_fin {c : ByteArray} {q n : Nat} {i : Instr} (h : Decoder.instr q c q = .ok (i, q + n)) : decode c q = .ok (i, n) := by
  have e : decode c q = (match Decoder.instr q c q with | .error x => .error x | .ok (j, s) => .ok (j, s - q)) := by
    show (do let (j, s) ← Decoder.instr q c q; Pure.pure (j, s - q) : Except DecodeError (Instr × Nat)) = _
    cases Decoder.instr q c q <;> rfl
  rw [h] at e
  refine e.trans ?_
  show Except.ok (i, q + n - q) = _
  rw [Nat.add_sub_cancel_left]
def dzO (op : Nat) (k : Reader DecodeError Instr) : Prop := ∀ (c : ByteArray) (q : Nat), dzOf c q = some op → Decoder.instr q c q = k c (q + 1)
theorem dz0 {op : Nat} {i : Instr} (o : dzO op (Pure.pure i)) {c : ByteArray} {p : Nat} {l r : List Nat} (j : Nat) (h : dzB c p l) (h2 : l.drop j = op :: r) : decode c (p + j) = .ok (i, 1) := by
  refine dz_fin ((o c _ (dzB_at 0 h h2 rfl)).trans ?_)
  rfl
theorem dz1 {op : Nat} {f : Nat → Instr} (o : dzO op (Reader.u1 >>= fun v => Pure.pure (f v))) {c : ByteArray} {p : Nat} {l r : List Nat} (j a : Nat) (h : dzB c p l) (h2 : l.drop j = op :: a :: r) : decode c (p + j) = .ok (f a, 2) := by
  refine dz_fin ((o c _ (dzB_at 0 h h2 rfl)).trans ?_)
  refine (dz_bind (dz_u1 (dzB_at 1 h h2 rfl))).trans ?_
  rfl
theorem dz2 {op : Nat} {f : Nat → Instr} (o : dzO op (Reader.u2 >>= fun v => Pure.pure (f v))) {c : ByteArray} {p : Nat} {l r : List Nat} (j a b : Nat) (h : dzB c p l) (h2 : l.drop j = op :: a :: b :: r) : decode c (p + j) = .ok (f (a * 256 + b), 3) := by
  refine dz_fin ((o c _ (dzB_at 0 h h2 rfl)).trans ?_)
  refine (dz_bind (dz_u2 (dzB_at 1 h h2 rfl) (dzB_at 2 h h2 rfl))).trans ?_
  rfl
theorem dz3 {op : Nat} {f : Int → Instr} (o : dzO op (Reader.s1 >>= fun v => Pure.pure (f v))) {c : ByteArray} {p : Nat} {l r : List Nat} (j a : Nat) (v : Int) (hv : Reader.signed 8 a = v) (h : dzB c p l) (h2 : l.drop j = op :: a :: r) : decode c (p + j) = .ok (f v, 2) := by
  refine dz_fin ((o c _ (dzB_at 0 h h2 rfl)).trans ?_)
  refine (dz_bind (dz_s1 (dzB_at 1 h h2 rfl) hv)).trans ?_
  rfl
theorem dz4 {op : Nat} {f : Int → Instr} (o : dzO op (Reader.s2 >>= fun v => Pure.pure (f v))) {c : ByteArray} {p : Nat} {l r : List Nat} (j a b : Nat) (v : Int) (hv : Reader.signed 16 (a * 256 + b) = v) (h : dzB c p l) (h2 : l.drop j = op :: a :: b :: r) : decode c (p + j) = .ok (f v, 3) := by
  refine dz_fin ((o c _ (dzB_at 0 h h2 rfl)).trans ?_)
  refine (dz_bind (dz_s2 (dzB_at 1 h h2 rfl) (dzB_at 2 h h2 rfl) hv)).trans ?_
  rfl
theorem dz5 {op : Nat} {f : Nat → Int → Instr} (o : dzO op (Reader.u1 >>= fun u => Reader.s1 >>= fun v => Pure.pure (f u v))) {c : ByteArray} {p : Nat} {l r : List Nat} (j a b : Nat) (v : Int) (hv : Reader.signed 8 b = v) (h : dzB c p l) (h2 : l.drop j = op :: a :: b :: r) : decode c (p + j) = .ok (f a v, 3) := by
  refine dz_fin ((o c _ (dzB_at 0 h h2 rfl)).trans ?_)
  refine (dz_bind (dz_u1 (dzB_at 1 h h2 rfl))).trans ?_
  refine (dz_bind (dz_s1 (dzB_at 2 h h2 rfl) hv)).trans ?_
  rfl
set_option maxRecDepth 16384 in
theorem dzo2 : dzO 2 (Pure.pure (Instr.iconst (-1))) := fun c q h => by
  delta Decoder.instr
  exact (dz_bind (dz_u1 h)).trans rfl
set_option maxRecDepth 16384 in
theorem dzo3 : dzO 3 (Pure.pure (Instr.iconst 0)) := fun c q h => by
  delta Decoder.instr
  exact (dz_bind (dz_u1 h)).trans rfl
set_option maxRecDepth 16384 in
theorem dzo4 : dzO 4 (Pure.pure (Instr.iconst 1)) := fun c q h => by
  delta Decoder.instr
  exact (dz_bind (dz_u1 h)).trans rfl
set_option maxRecDepth 16384 in
theorem dzo5 : dzO 5 (Pure.pure (Instr.iconst 2)) := fun c q h => by
  delta Decoder.instr
  exact (dz_bind (dz_u1 h)).trans rfl
set_option maxRecDepth 16384 in
theorem dzo6 : dzO 6 (Pure.pure (Instr.iconst 3)) := fun c q h => by
  delta Decoder.instr
  exact (dz_bind (dz_u1 h)).trans rfl
set_option maxRecDepth 16384 in
theorem dzo7 : dzO 7 (Pure.pure (Instr.iconst 4)) := fun c q h => by
  delta Decoder.instr
  exact (dz_bind (dz_u1 h)).trans rfl
set_option maxRecDepth 16384 in
theorem dzo8 : dzO 8 (Pure.pure (Instr.iconst 5)) := fun c q h => by
  delta Decoder.instr
  exact (dz_bind (dz_u1 h)).trans rfl
set_option maxRecDepth 16384 in
theorem dzo9 : dzO 9 (Pure.pure (Instr.lconst 0)) := fun c q h => by
  delta Decoder.instr
  exact (dz_bind (dz_u1 h)).trans rfl
set_option maxRecDepth 16384 in
theorem dzo10 : dzO 10 (Pure.pure (Instr.lconst 1)) := fun c q h => by
  delta Decoder.instr
  exact (dz_bind (dz_u1 h)).trans rfl
set_option maxRecDepth 16384 in
theorem dzo16 : dzO 16 (Reader.s1 >>= fun v => Pure.pure (Instr.bipush v)) := fun c q h => by
  delta Decoder.instr
  exact (dz_bind (dz_u1 h)).trans rfl
set_option maxRecDepth 16384 in
theorem dzo17 : dzO 17 (Reader.s2 >>= fun v => Pure.pure (Instr.sipush v)) := fun c q h => by
  delta Decoder.instr
  exact (dz_bind (dz_u1 h)).trans rfl
set_option maxRecDepth 16384 in
theorem dzo18 : dzO 18 (Reader.u1 >>= fun v => Pure.pure (Instr.ldc v)) := fun c q h => by
  delta Decoder.instr
  exact (dz_bind (dz_u1 h)).trans rfl
set_option maxRecDepth 16384 in
theorem dzo19 : dzO 19 (Reader.u2 >>= fun v => Pure.pure (Instr.ldc_w v)) := fun c q h => by
  delta Decoder.instr
  exact (dz_bind (dz_u1 h)).trans rfl
set_option maxRecDepth 16384 in
theorem dzo20 : dzO 20 (Reader.u2 >>= fun v => Pure.pure (Instr.ldc2_w v)) := fun c q h => by
  delta Decoder.instr
  exact (dz_bind (dz_u1 h)).trans rfl
set_option maxRecDepth 16384 in
theorem dzo21 : dzO 21 (Reader.u1 >>= fun v => Pure.pure (Instr.iload v)) := fun c q h => by
  delta Decoder.instr
  exact (dz_bind (dz_u1 h)).trans rfl
set_option maxRecDepth 16384 in
theorem dzo22 : dzO 22 (Reader.u1 >>= fun v => Pure.pure (Instr.lload v)) := fun c q h => by
  delta Decoder.instr
  exact (dz_bind (dz_u1 h)).trans rfl
set_option maxRecDepth 16384 in
theorem dzo26 : dzO 26 (Pure.pure (Instr.iload_n 0)) := fun c q h => by
  delta Decoder.instr
  exact (dz_bind (dz_u1 h)).trans rfl
set_option maxRecDepth 16384 in
theorem dzo27 : dzO 27 (Pure.pure (Instr.iload_n 1)) := fun c q h => by
  delta Decoder.instr
  exact (dz_bind (dz_u1 h)).trans rfl
set_option maxRecDepth 16384 in
theorem dzo28 : dzO 28 (Pure.pure (Instr.iload_n 2)) := fun c q h => by
  delta Decoder.instr
  exact (dz_bind (dz_u1 h)).trans rfl
set_option maxRecDepth 16384 in
theorem dzo29 : dzO 29 (Pure.pure (Instr.iload_n 3)) := fun c q h => by
  delta Decoder.instr
  exact (dz_bind (dz_u1 h)).trans rfl
set_option maxRecDepth 16384 in
theorem dzo30 : dzO 30 (Pure.pure (Instr.lload_n 0)) := fun c q h => by
  delta Decoder.instr
  exact (dz_bind (dz_u1 h)).trans rfl
set_option maxRecDepth 16384 in
theorem dzo31 : dzO 31 (Pure.pure (Instr.lload_n 1)) := fun c q h => by
  delta Decoder.instr
  exact (dz_bind (dz_u1 h)).trans rfl
set_option maxRecDepth 16384 in
theorem dzo32 : dzO 32 (Pure.pure (Instr.lload_n 2)) := fun c q h => by
  delta Decoder.instr
  exact (dz_bind (dz_u1 h)).trans rfl
set_option maxRecDepth 16384 in
theorem dzo33 : dzO 33 (Pure.pure (Instr.lload_n 3)) := fun c q h => by
  delta Decoder.instr
  exact (dz_bind (dz_u1 h)).trans rfl
set_option maxRecDepth 16384 in
theorem dzo42 : dzO 42 (Pure.pure (Instr.aload_n 0)) := fun c q h => by
  delta Decoder.instr
  exact (dz_bind (dz_u1 h)).trans rfl
set_option maxRecDepth 16384 in
theorem dzo43 : dzO 43 (Pure.pure (Instr.aload_n 1)) := fun c q h => by
  delta Decoder.instr
  exact (dz_bind (dz_u1 h)).trans rfl
set_option maxRecDepth 16384 in
theorem dzo44 : dzO 44 (Pure.pure (Instr.aload_n 2)) := fun c q h => by
  delta Decoder.instr
  exact (dz_bind (dz_u1 h)).trans rfl
set_option maxRecDepth 16384 in
theorem dzo45 : dzO 45 (Pure.pure (Instr.aload_n 3)) := fun c q h => by
  delta Decoder.instr
  exact (dz_bind (dz_u1 h)).trans rfl
set_option maxRecDepth 16384 in
theorem dzo46 : dzO 46 (Pure.pure Instr.iaload) := fun c q h => by
  delta Decoder.instr
  exact (dz_bind (dz_u1 h)).trans rfl
set_option maxRecDepth 16384 in
theorem dzo47 : dzO 47 (Pure.pure Instr.laload) := fun c q h => by
  delta Decoder.instr
  exact (dz_bind (dz_u1 h)).trans rfl
set_option maxRecDepth 16384 in
theorem dzo50 : dzO 50 (Pure.pure Instr.aaload) := fun c q h => by
  delta Decoder.instr
  exact (dz_bind (dz_u1 h)).trans rfl
set_option maxRecDepth 16384 in
theorem dzo51 : dzO 51 (Pure.pure Instr.baload) := fun c q h => by
  delta Decoder.instr
  exact (dz_bind (dz_u1 h)).trans rfl
set_option maxRecDepth 16384 in
theorem dzo54 : dzO 54 (Reader.u1 >>= fun v => Pure.pure (Instr.istore v)) := fun c q h => by
  delta Decoder.instr
  exact (dz_bind (dz_u1 h)).trans rfl
set_option maxRecDepth 16384 in
theorem dzo55 : dzO 55 (Reader.u1 >>= fun v => Pure.pure (Instr.lstore v)) := fun c q h => by
  delta Decoder.instr
  exact (dz_bind (dz_u1 h)).trans rfl
set_option maxRecDepth 16384 in
theorem dzo60 : dzO 60 (Pure.pure (Instr.istore_n 1)) := fun c q h => by
  delta Decoder.instr
  exact (dz_bind (dz_u1 h)).trans rfl
set_option maxRecDepth 16384 in
theorem dzo61 : dzO 61 (Pure.pure (Instr.istore_n 2)) := fun c q h => by
  delta Decoder.instr
  exact (dz_bind (dz_u1 h)).trans rfl
set_option maxRecDepth 16384 in
theorem dzo62 : dzO 62 (Pure.pure (Instr.istore_n 3)) := fun c q h => by
  delta Decoder.instr
  exact (dz_bind (dz_u1 h)).trans rfl
set_option maxRecDepth 16384 in
theorem dzo64 : dzO 64 (Pure.pure (Instr.lstore_n 1)) := fun c q h => by
  delta Decoder.instr
  exact (dz_bind (dz_u1 h)).trans rfl
set_option maxRecDepth 16384 in
theorem dzo65 : dzO 65 (Pure.pure (Instr.lstore_n 2)) := fun c q h => by
  delta Decoder.instr
  exact (dz_bind (dz_u1 h)).trans rfl
set_option maxRecDepth 16384 in
theorem dzo66 : dzO 66 (Pure.pure (Instr.lstore_n 3)) := fun c q h => by
  delta Decoder.instr
  exact (dz_bind (dz_u1 h)).trans rfl
set_option maxRecDepth 16384 in
theorem dzo76 : dzO 76 (Pure.pure (Instr.astore_n 1)) := fun c q h => by
  delta Decoder.instr
  exact (dz_bind (dz_u1 h)).trans rfl
set_option maxRecDepth 16384 in
theorem dzo77 : dzO 77 (Pure.pure (Instr.astore_n 2)) := fun c q h => by
  delta Decoder.instr
  exact (dz_bind (dz_u1 h)).trans rfl
set_option maxRecDepth 16384 in
theorem dzo78 : dzO 78 (Pure.pure (Instr.astore_n 3)) := fun c q h => by
  delta Decoder.instr
  exact (dz_bind (dz_u1 h)).trans rfl
set_option maxRecDepth 16384 in
theorem dzo79 : dzO 79 (Pure.pure Instr.iastore) := fun c q h => by
  delta Decoder.instr
  exact (dz_bind (dz_u1 h)).trans rfl
set_option maxRecDepth 16384 in
theorem dzo80 : dzO 80 (Pure.pure Instr.lastore) := fun c q h => by
  delta Decoder.instr
  exact (dz_bind (dz_u1 h)).trans rfl
set_option maxRecDepth 16384 in
theorem dzo83 : dzO 83 (Pure.pure Instr.aastore) := fun c q h => by
  delta Decoder.instr
  exact (dz_bind (dz_u1 h)).trans rfl
set_option maxRecDepth 16384 in
theorem dzo84 : dzO 84 (Pure.pure Instr.bastore) := fun c q h => by
  delta Decoder.instr
  exact (dz_bind (dz_u1 h)).trans rfl
set_option maxRecDepth 16384 in
theorem dzo87 : dzO 87 (Pure.pure Instr.pop) := fun c q h => by
  delta Decoder.instr
  exact (dz_bind (dz_u1 h)).trans rfl
set_option maxRecDepth 16384 in
theorem dzo88 : dzO 88 (Pure.pure Instr.pop2) := fun c q h => by
  delta Decoder.instr
  exact (dz_bind (dz_u1 h)).trans rfl
set_option maxRecDepth 16384 in
theorem dzo89 : dzO 89 (Pure.pure Instr.dup) := fun c q h => by
  delta Decoder.instr
  exact (dz_bind (dz_u1 h)).trans rfl
set_option maxRecDepth 16384 in
theorem dzo92 : dzO 92 (Pure.pure Instr.dup2) := fun c q h => by
  delta Decoder.instr
  exact (dz_bind (dz_u1 h)).trans rfl
set_option maxRecDepth 16384 in
theorem dzo96 : dzO 96 (Pure.pure Instr.iadd) := fun c q h => by
  delta Decoder.instr
  exact (dz_bind (dz_u1 h)).trans rfl
set_option maxRecDepth 16384 in
theorem dzo97 : dzO 97 (Pure.pure Instr.ladd) := fun c q h => by
  delta Decoder.instr
  exact (dz_bind (dz_u1 h)).trans rfl
set_option maxRecDepth 16384 in
theorem dzo100 : dzO 100 (Pure.pure Instr.isub) := fun c q h => by
  delta Decoder.instr
  exact (dz_bind (dz_u1 h)).trans rfl
set_option maxRecDepth 16384 in
theorem dzo104 : dzO 104 (Pure.pure Instr.imul) := fun c q h => by
  delta Decoder.instr
  exact (dz_bind (dz_u1 h)).trans rfl
set_option maxRecDepth 16384 in
theorem dzo105 : dzO 105 (Pure.pure Instr.lmul) := fun c q h => by
  delta Decoder.instr
  exact (dz_bind (dz_u1 h)).trans rfl
set_option maxRecDepth 16384 in
theorem dzo108 : dzO 108 (Pure.pure Instr.idiv) := fun c q h => by
  delta Decoder.instr
  exact (dz_bind (dz_u1 h)).trans rfl
set_option maxRecDepth 16384 in
theorem dzo109 : dzO 109 (Pure.pure Instr.ldiv) := fun c q h => by
  delta Decoder.instr
  exact (dz_bind (dz_u1 h)).trans rfl
set_option maxRecDepth 16384 in
theorem dzo112 : dzO 112 (Pure.pure Instr.irem) := fun c q h => by
  delta Decoder.instr
  exact (dz_bind (dz_u1 h)).trans rfl
set_option maxRecDepth 16384 in
theorem dzo113 : dzO 113 (Pure.pure Instr.lrem) := fun c q h => by
  delta Decoder.instr
  exact (dz_bind (dz_u1 h)).trans rfl
set_option maxRecDepth 16384 in
theorem dzo116 : dzO 116 (Pure.pure Instr.ineg) := fun c q h => by
  delta Decoder.instr
  exact (dz_bind (dz_u1 h)).trans rfl
set_option maxRecDepth 16384 in
theorem dzo120 : dzO 120 (Pure.pure Instr.ishl) := fun c q h => by
  delta Decoder.instr
  exact (dz_bind (dz_u1 h)).trans rfl
set_option maxRecDepth 16384 in
theorem dzo122 : dzO 122 (Pure.pure Instr.ishr) := fun c q h => by
  delta Decoder.instr
  exact (dz_bind (dz_u1 h)).trans rfl
set_option maxRecDepth 16384 in
theorem dzo126 : dzO 126 (Pure.pure Instr.iand) := fun c q h => by
  delta Decoder.instr
  exact (dz_bind (dz_u1 h)).trans rfl
set_option maxRecDepth 16384 in
theorem dzo128 : dzO 128 (Pure.pure Instr.ior) := fun c q h => by
  delta Decoder.instr
  exact (dz_bind (dz_u1 h)).trans rfl
set_option maxRecDepth 16384 in
theorem dzo130 : dzO 130 (Pure.pure Instr.ixor) := fun c q h => by
  delta Decoder.instr
  exact (dz_bind (dz_u1 h)).trans rfl
set_option maxRecDepth 16384 in
theorem dzo132 : dzO 132 (Reader.u1 >>= fun u => Reader.s1 >>= fun v => Pure.pure (Instr.iinc u v)) := fun c q h => by
  delta Decoder.instr
  exact (dz_bind (dz_u1 h)).trans rfl
set_option maxRecDepth 16384 in
theorem dzo133 : dzO 133 (Pure.pure Instr.i2l) := fun c q h => by
  delta Decoder.instr
  exact (dz_bind (dz_u1 h)).trans rfl
set_option maxRecDepth 16384 in
theorem dzo136 : dzO 136 (Pure.pure Instr.l2i) := fun c q h => by
  delta Decoder.instr
  exact (dz_bind (dz_u1 h)).trans rfl
set_option maxRecDepth 16384 in
theorem dzo145 : dzO 145 (Pure.pure Instr.i2b) := fun c q h => by
  delta Decoder.instr
  exact (dz_bind (dz_u1 h)).trans rfl
set_option maxRecDepth 16384 in
theorem dzo146 : dzO 146 (Pure.pure Instr.i2c) := fun c q h => by
  delta Decoder.instr
  exact (dz_bind (dz_u1 h)).trans rfl
set_option maxRecDepth 16384 in
theorem dzo148 : dzO 148 (Pure.pure Instr.lcmp) := fun c q h => by
  delta Decoder.instr
  exact (dz_bind (dz_u1 h)).trans rfl
set_option maxRecDepth 16384 in
theorem dzo153 : dzO 153 (Reader.s2 >>= fun v => Pure.pure (Instr.ifCond .eq v)) := fun c q h => by
  delta Decoder.instr
  exact (dz_bind (dz_u1 h)).trans rfl
set_option maxRecDepth 16384 in
theorem dzo154 : dzO 154 (Reader.s2 >>= fun v => Pure.pure (Instr.ifCond .ne v)) := fun c q h => by
  delta Decoder.instr
  exact (dz_bind (dz_u1 h)).trans rfl
set_option maxRecDepth 16384 in
theorem dzo155 : dzO 155 (Reader.s2 >>= fun v => Pure.pure (Instr.ifCond .lt v)) := fun c q h => by
  delta Decoder.instr
  exact (dz_bind (dz_u1 h)).trans rfl
set_option maxRecDepth 16384 in
theorem dzo156 : dzO 156 (Reader.s2 >>= fun v => Pure.pure (Instr.ifCond .ge v)) := fun c q h => by
  delta Decoder.instr
  exact (dz_bind (dz_u1 h)).trans rfl
set_option maxRecDepth 16384 in
theorem dzo157 : dzO 157 (Reader.s2 >>= fun v => Pure.pure (Instr.ifCond .gt v)) := fun c q h => by
  delta Decoder.instr
  exact (dz_bind (dz_u1 h)).trans rfl
set_option maxRecDepth 16384 in
theorem dzo158 : dzO 158 (Reader.s2 >>= fun v => Pure.pure (Instr.ifCond .le v)) := fun c q h => by
  delta Decoder.instr
  exact (dz_bind (dz_u1 h)).trans rfl
set_option maxRecDepth 16384 in
theorem dzo159 : dzO 159 (Reader.s2 >>= fun v => Pure.pure (Instr.if_icmp .eq v)) := fun c q h => by
  delta Decoder.instr
  exact (dz_bind (dz_u1 h)).trans rfl
set_option maxRecDepth 16384 in
theorem dzo160 : dzO 160 (Reader.s2 >>= fun v => Pure.pure (Instr.if_icmp .ne v)) := fun c q h => by
  delta Decoder.instr
  exact (dz_bind (dz_u1 h)).trans rfl
set_option maxRecDepth 16384 in
theorem dzo161 : dzO 161 (Reader.s2 >>= fun v => Pure.pure (Instr.if_icmp .lt v)) := fun c q h => by
  delta Decoder.instr
  exact (dz_bind (dz_u1 h)).trans rfl
set_option maxRecDepth 16384 in
theorem dzo162 : dzO 162 (Reader.s2 >>= fun v => Pure.pure (Instr.if_icmp .ge v)) := fun c q h => by
  delta Decoder.instr
  exact (dz_bind (dz_u1 h)).trans rfl
set_option maxRecDepth 16384 in
theorem dzo163 : dzO 163 (Reader.s2 >>= fun v => Pure.pure (Instr.if_icmp .gt v)) := fun c q h => by
  delta Decoder.instr
  exact (dz_bind (dz_u1 h)).trans rfl
set_option maxRecDepth 16384 in
theorem dzo164 : dzO 164 (Reader.s2 >>= fun v => Pure.pure (Instr.if_icmp .le v)) := fun c q h => by
  delta Decoder.instr
  exact (dz_bind (dz_u1 h)).trans rfl
set_option maxRecDepth 16384 in
theorem dzo167 : dzO 167 (Reader.s2 >>= fun v => Pure.pure (Instr.goto v)) := fun c q h => by
  delta Decoder.instr
  exact (dz_bind (dz_u1 h)).trans rfl
set_option maxRecDepth 16384 in
theorem dzo172 : dzO 172 (Pure.pure Instr.ireturn) := fun c q h => by
  delta Decoder.instr
  exact (dz_bind (dz_u1 h)).trans rfl
set_option maxRecDepth 16384 in
theorem dzo173 : dzO 173 (Pure.pure Instr.lreturn) := fun c q h => by
  delta Decoder.instr
  exact (dz_bind (dz_u1 h)).trans rfl
set_option maxRecDepth 16384 in
theorem dzo177 : dzO 177 (Pure.pure Instr.return_) := fun c q h => by
  delta Decoder.instr
  exact (dz_bind (dz_u1 h)).trans rfl
set_option maxRecDepth 16384 in
theorem dzo180 : dzO 180 (Reader.u2 >>= fun v => Pure.pure (Instr.getfield v)) := fun c q h => by
  delta Decoder.instr
  exact (dz_bind (dz_u1 h)).trans rfl
set_option maxRecDepth 16384 in
theorem dzo181 : dzO 181 (Reader.u2 >>= fun v => Pure.pure (Instr.putfield v)) := fun c q h => by
  delta Decoder.instr
  exact (dz_bind (dz_u1 h)).trans rfl
set_option maxRecDepth 16384 in
theorem dzo182 : dzO 182 (Reader.u2 >>= fun v => Pure.pure (Instr.invokevirtual v)) := fun c q h => by
  delta Decoder.instr
  exact (dz_bind (dz_u1 h)).trans rfl
set_option maxRecDepth 16384 in
theorem dzo183 : dzO 183 (Reader.u2 >>= fun v => Pure.pure (Instr.invokespecial v)) := fun c q h => by
  delta Decoder.instr
  exact (dz_bind (dz_u1 h)).trans rfl
set_option maxRecDepth 16384 in
theorem dzo184 : dzO 184 (Reader.u2 >>= fun v => Pure.pure (Instr.invokestatic v)) := fun c q h => by
  delta Decoder.instr
  exact (dz_bind (dz_u1 h)).trans rfl
set_option maxRecDepth 16384 in
theorem dzo187 : dzO 187 (Reader.u2 >>= fun v => Pure.pure (Instr.new v)) := fun c q h => by
  delta Decoder.instr
  exact (dz_bind (dz_u1 h)).trans rfl
set_option maxRecDepth 16384 in
theorem dzo189 : dzO 189 (Reader.u2 >>= fun v => Pure.pure (Instr.anewarray v)) := fun c q h => by
  delta Decoder.instr
  exact (dz_bind (dz_u1 h)).trans rfl
set_option maxRecDepth 16384 in
theorem dzo190 : dzO 190 (Pure.pure Instr.arraylength) := fun c q h => by
  delta Decoder.instr
  exact (dz_bind (dz_u1 h)).trans rfl
set_option maxRecDepth 16384 in
theorem dzo191 : dzO 191 (Pure.pure Instr.athrow) := fun c q h => by
  delta Decoder.instr
  exact (dz_bind (dz_u1 h)).trans rfl
set_option maxRecDepth 16384 in
theorem dzo198 : dzO 198 (Reader.s2 >>= fun v => Pure.pure (Instr.ifnull v)) := fun c q h => by
  delta Decoder.instr
  exact (dz_bind (dz_u1 h)).trans rfl
set_option maxRecDepth 16384 in
theorem dzo199 : dzO 199 (Reader.s2 >>= fun v => Pure.pure (Instr.ifnonnull v)) := fun c q h => by
  delta Decoder.instr
  exact (dz_bind (dz_u1 h)).trans rfl

/-! What the class's methods do to rows and numbers, as functions. -/
def shl (x y : Int32) : Int32 := x <<< (y &&& 31)
def shr (x y : Int32) : Int32 := x >>> (y &&& 31)
def ushr (x y : Int32) : Int32 := (x.toUInt32 >>> (y.toUInt32 &&& Int32.toUInt32 31)).toInt32
def lshl (x : Int64) (y : Int32) : Int64 := x <<< (y.toInt64 &&& 63)
def lshr (x : Int64) (y : Int32) : Int64 := x >>> (y.toInt64 &&& 63)
def lushr (x : Int64) (y : Int32) : Int64 := (x.toUInt64 >>> (y.toInt64.toUInt64 &&& Int64.toUInt64 63)).toInt64
def sB (x : Int32) : Int32 := x.toInt8.toInt32
def sC (x : Int32) : Int32 := (x.toUInt32 % 65536).toInt32
theorem sB_nar (x : Int32) : vp_nar .byte (sB x) = sB x := pk_vb x
theorem sB_fit (x : Int32) : fits .byte (.int (sB x)) = true := pk_fb x
theorem nI_dec (a k : Nat) (h : k ≤ a) : nI a + Int32.ofInt (-(k : Int)) = nI (a - k) := by
  rw [← pk_sub h, Int32.sub_eq_add_neg]
  congr 1
  show Int32.ofInt (-(k : Int)) = -Int32.ofNat k
  rw [Int32.ofInt_neg]
  rfl
/-- a row's bytes: each is a byte's number -/
def Byt (f : Nat → Int32) : Prop := ∀ j, fits .byte (.int (f j)) = true
theorem Byt.up {f : Nat → Int32} {k : Nat} {x : Int32} (h : Byt f) (hx : fits .byte (.int x) = true) : Byt (upd f k x) := by
  intro j
  unfold upd
  split
  · exact hx
  · exact h j
theorem Byt.cpy {f h : Nat → Int32} {i j k : Nat} (hf : Byt f) (hh : Byt h) : Byt (va_cpy f h i j k) := by
  intro t
  unfold va_cpy
  split
  · exact hf _
  · exact hh _
theorem Byt.zero : Byt (fun _ => 0) := fun _ => rfl
-- bytes to and from words
def wh (f : Nat → Int32) (k : Nat) (v : Int32) : Nat → Int32 := upd (upd (upd (upd f k (sB (ushr v 24))) (k + 1) (sB (ushr v 16))) (k + 2) (sB (ushr v 8))) (k + 3) (sB v)
def wl (f : Nat → Int32) (k : Nat) (v : Int32) : Nat → Int32 := upd (upd (upd (upd f k (sB v)) (k + 1) (sB (ushr v 8))) (k + 2) (sB (ushr v 16))) (k + 3) (sB (ushr v 24))
def rh (f : Nat → Int32) (k : Nat) : Int32 := shl (f k &&& 255) 24 ||| shl (f (k + 1) &&& 255) 16 ||| shl (f (k + 2) &&& 255) 8 ||| (f (k + 3) &&& 255)
def rl (f : Nat → Int32) (k : Nat) : Int32 := (f k &&& 255) ||| shl (f (k + 1) &&& 255) 8 ||| shl (f (k + 2) &&& 255) 16 ||| shl (f (k + 3) &&& 255) 24
def tl (v b : Int32) : Int32 := shl v b ||| ushr v (32 - b)
def tr (v b : Int32) : Int32 := ushr v b ||| shl v (32 - b)
theorem Byt.wh {f : Nat → Int32} {k : Nat} {v : Int32} (h : Byt f) : Byt (wh f k v) := (((h.up (sB_fit _)).up (sB_fit _)).up (sB_fit _)).up (sB_fit _)
theorem Byt.wl {f : Nat → Int32} {k : Nat} {v : Int32} (h : Byt f) : Byt (wl f k v) := (((h.up (sB_fit _)).up (sB_fit _)).up (sB_fit _)).up (sB_fit _)
-- ChaCha20
def qa (f : Nat → Int32) (a b : Nat) : Nat → Int32 := upd f a (f a + f b)
def qx (f : Nat → Int32) (d a : Nat) (r : Int32) : Nat → Int32 := upd f d (tl (f d ^^^ f a) r)
def qr (f : Nat → Int32) (a b c d : Nat) : Nat → Int32 := qx (qa (qx (qa (qx (qa (qx (qa f a b) d a 16) c d) b c 12) a b) d a 8) c d) b c 7
def qcol (f : Nat → Int32) : Nat → Int32 := qr (qr (qr (qr f 0 4 8 12) 1 5 9 13) 2 6 10 14) 3 7 11 15
def qdia (f : Nat → Int32) : Nat → Int32 := qr (qr (qr (qr f 0 5 10 15) 1 6 11 12) 2 7 8 13) 3 4 9 14
def qrounds (f : Nat → Int32) : Nat → Nat → Int32
  | 0 => f
  | n + 1 => qdia (qcol (qrounds f n))
def lay0 (f : Nat → Int32) : Nat → Int32 := upd (upd (upd (upd f 0 1634760805) 1 857760878) 2 2036477234) 3 1797285236
def layk (key f : Nat → Int32) : Nat → Nat → Int32
  | 0 => f
  | i + 1 => upd (layk key f i) (4 + i) (rl key (4 * i))
def layn (non f : Nat → Int32) : Nat → Nat → Int32
  | 0 => f
  | i + 1 => upd (layn non f i) (13 + i) (rl non (4 * i))
def layF (f key non : Nat → Int32) (ctr : Int32) : Nat → Int32 := layn non (upd (layk key (lay0 f) 8) 12 ctr) 3
def outF (row mixed first : Nat → Int32) : Nat → Nat → Int32
  | 0 => row
  | i + 1 => wl (outF row mixed first i) (4 * i) (mixed i + first i)
def mixF (f m fk fn : Nat → Int32) (ctr : Int32) : Nat → Int32 := qrounds (va_cpy (layF f fk fn ctr) m 0 0 16) 10
def fillF (row f m fk fn : Nat → Int32) (ctr : Int32) : Nat → Int32 := outF row (mixF f m fk fn ctr) (layF f fk fn ctr) 16

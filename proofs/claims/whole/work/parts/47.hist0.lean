/-! ===== the past plays ===== -/
theorem Hold.congR {X : XT} {A : Nat → Prop} {w w2 : va_W} {H : Heap} (hH : Hold X A w H) (q0 : Nat) {a n : Nat} {f f2 : Nat → Option Nat} (he : w[q0]? = some (ppa X a n f)) (h : ∀ k, k < n → f k = f2 k) (hw : w.set q0 (ppa X a n f2) = w2) : Hold X A w2 H := by
  subst hw
  refine ⟨hH.1.set hH.2 he ?_ (fun q _ => rfl), hH.2.set he⟩
  have h1 := hH.1 q0 _ he
  show H[a]? = some (vp_cell _ _)
  have h2 : H[a]? = some (vp_cell (X.2.1 2) (n, .inr (.inr (.inr (.inr f))))) := h1
  rw [h2, vp_cell_q, vp_cell_q]
  congr 1
  apply arrV_congr
  intro k hk
  show va_rf (f k) = va_rf (f2 k)
  rw [h k hk]
abbrev PlD : Type := (Int × Int × Int) × (Nat → Nat → Int)
abbrev plW (X : XT) (q : Nat) (Qp : Nat → Nat) (d : PlD) : va_W := [(q, .inr (2, [.int (iI d.1.1), .int (iI d.1.2.1), .int (iI d.1.2.2), .ref (Qp 0), .ref (Qp 1), .ref (Qp 2), .ref (Qp 3), .ref (Qp 4), .ref (Qp 5), .ref (Qp 6), .ref (Qp 7), .ref (Qp 8)])), ia X (Qp 0) 10 (d.2 0), ia X (Qp 1) 8 (d.2 1), ia X (Qp 2) 8 (d.2 2), ia X (Qp 3) 8 (d.2 3), ia X (Qp 4) 8 (d.2 4), ia X (Qp 5) 20 (d.2 5), ia X (Qp 6) 20 (d.2 6), ia X (Qp 7) 20 (d.2 7), ia X (Qp 8) 20 (d.2 8)]
def mkA (sl vo ou inn ac ag ai et xt : Nat → Int) : Nat → Nat → Int := fun i => match i with
  | 0 => sl
  | 1 => vo
  | 2 => ou
  | 3 => inn
  | 4 => ac
  | 5 => ag
  | 6 => ai
  | 7 => et
  | _ => xt
abbrev mkD (sc ro ap : Int) (sl vo ou inn ac ag ai et xt : Nat → Int) : PlD := ((sc, ro, ap), mkA sl vo ou inn ac ag ai et xt)
abbrev hiW (q qa : Nat) (k : Int) : va_W := [(q, .inr (1, [.int (iI k), .ref qa]))]
abbrev pfW (X : XT) (q : Nat) (f : Nat → Option Nat) : va_W := [ppa X q 5 f]
def rot {α : Type} (f : Nat → α) : Nat → α := fun i => match i with
  | 0 => f 1
  | 1 => f 2
  | 2 => f 3
  | 3 => f 4
  | _ => f 0
def upD {α : Type} (D : Nat → α) (k : Nat) (d : α) : Nat → α := fun i => if i = k then d else D i
def remD (D : Nat → PlD) (kn : Nat) (d : PlD) : Nat → PlD := if kn = 5 then upD (rot D) 4 d else upD D kn d
theorem kX2_copyGE (l : Launch) (X : XT) (q : Nat) (Qp : Nat → Nat) (d : PlD) (q2 : Nat) (Qo : Nat → Nat) (tc tr ta : Int) (osl ovo oou oinn oac oag oai oet oxt : Nat → Int) : Cv l yX2_copyFrom wsX2_copyFrom (rmD 1) X [.ref q, .ref q2] [plW X q Qp d, poW q2 Qo tc tr ta, aW X (Qo 0) 10 osl, aW X (Qo 1) 8 ovo, aW X (Qo 2) 8 oou, aW X (Qo 3) 8 oinn, aW X (Qo 4) 8 oac, aW X (Qo 5) 20 oag, aW X (Qo 6) 20 oai, aW X (Qo 7) 20 oet, aW X (Qo 8) 20 oxt] (fun (_ : Unit) => True) (fun (_ : Unit) => [plW X q Qp (mkD tc tr ta osl ovo oou oinn oac oag oai oet oxt), poW q2 Qo tc tr ta, aW X (Qo 0) 10 osl, aW X (Qo 1) 8 ovo, aW X (Qo 2) 8 oou, aW X (Qo 3) 8 oinn, aW X (Qo 4) 8 oac, aW X (Qo 5) 20 oag, aW X (Qo 6) 20 oai, aW X (Qo 7) 20 oet, aW X (Qo 8) 20 oxt]) := kX2_copyFrom l X q Qp d.1.1 d.1.2.1 d.1.2.2 (d.2 0) (d.2 1) (d.2 2) (d.2 3) (d.2 4) (d.2 5) (d.2 6) (d.2 7) (d.2 8) q2 Qo tc tr ta osl ovo oou oinn oac oag oai oet oxt
theorem kX2_copyEG (l : Launch) (X : XT) (q : Nat) (Qp : Nat → Nat) (sc ro ap : Int) (sl vo ou inn ac ag ai et xt : Nat → Int) (q2 : Nat) (Qo : Nat → Nat) (d : PlD) : Cv l yX2_copyFrom wsX2_copyFrom (rmD 1) X [.ref q, .ref q2] [poW q Qp sc ro ap, aW X (Qp 0) 10 sl, aW X (Qp 1) 8 vo, aW X (Qp 2) 8 ou, aW X (Qp 3) 8 inn, aW X (Qp 4) 8 ac, aW X (Qp 5) 20 ag, aW X (Qp 6) 20 ai, aW X (Qp 7) 20 et, aW X (Qp 8) 20 xt, plW X q2 Qo d] (fun (_ : Unit) => True) (fun (_ : Unit) => [poW q Qp d.1.1 d.1.2.1 d.1.2.2, aW X (Qp 0) 10 (d.2 0), aW X (Qp 1) 8 (d.2 1), aW X (Qp 2) 8 (d.2 2), aW X (Qp 3) 8 (d.2 3), aW X (Qp 4) 8 (d.2 4), aW X (Qp 5) 20 (d.2 5), aW X (Qp 6) 20 (d.2 6), aW X (Qp 7) 20 (d.2 7), aW X (Qp 8) 20 (d.2 8), plW X q2 Qo d]) := kX2_copyFrom l X q Qp sc ro ap sl vo ou inn ac ag ai et xt q2 Qo d.1.1 d.1.2.1 d.1.2.2 (d.2 0) (d.2 1) (d.2 2) (d.2 3) (d.2 4) (d.2 5) (d.2 6) (d.2 7) (d.2 8)

/-! ===== the first play ===== -/
def iniT : Nat → Int := ptF (ptF (ptF (ptF (ptF z0 0 0 (lnJ 0)) (0 + lnJ 0) 1 (lnJ 1)) (0 + lnJ 0 + lnJ 1) 2 (lnJ 2)) (0 + lnJ 0 + lnJ 1 + lnJ 2) 3 (lnJ 3)) (0 + lnJ 0 + lnJ 1 + lnJ 2 + lnJ 3) 4 (lnJ 4)
def iniL : Nat := 0 + lnJ 0 + lnJ 1 + lnJ 2 + lnJ 3 + lnJ 4
theorem iniT_ok : okT iniT iniL := by
  unfold okT
  decide +kernel
def sR0 : Nat → Int := uI (uI (uI (uI eR 0 ((3 : Nat) : Int)) 1 ((30 : Nat) : Int)) 2 ((20 : Nat) : Int)) 3 ((40 : Nat) : Int)
theorem okS0 : okR sR0 := okR_cong (v := addScene (addScene (addScene eR 30) 20) 40) (okR_addScene (okR_addScene (okR_addScene okR_eR (by decide +kernel) (by decide)) (by decide +kernel) (by decide)) (by decide +kernel) (by decide)) (by decide +kernel)
def sR1 : Nat → Int := addRole sR0 0 4 3
theorem nS0 : nr sR0 < 8 := by decide +kernel
theorem okS1 : okR sR1 := okR_addRole okS0 nS0 (by decide) (by decide) (by decide)
def sR2 : Nat → Int := addRole sR1 0 2 6
theorem nS1 : nr sR1 < 8 := by decide +kernel
theorem okS2 : okR sR2 := okR_addRole okS1 nS1 (by decide) (by decide) (by decide)
def sR3 : Nat → Int := addRole sR2 1 5 5
theorem nS2 : nr sR2 < 8 := by decide +kernel
theorem okS3 : okR sR3 := okR_addRole okS2 nS2 (by decide) (by decide) (by decide)
def sR4 : Nat → Int := addRole sR3 0 0 2
theorem nS3 : nr sR3 < 8 := by decide +kernel
theorem okS4 : okR sR4 := okR_addRole okS3 nS3 (by decide) (by decide) (by decide)
def sR5 : Nat → Int := addRole sR4 1 3 1
theorem nS4 : nr sR4 < 8 := by decide +kernel
theorem okS5 : okR sR5 := okR_addRole okS4 nS4 (by decide) (by decide) (by decide)
def sR6 : Nat → Int := addApp sR5 0 0 0 12
theorem nS5 : na sR5 < 20 := by decide +kernel
theorem okS6 : okR sR6 := okR_addApp okS5 nS5 (by decide +kernel) (by decide +kernel) (by decide)
def sR7 : Nat → Int := addApp sR6 1 0 18 30
theorem nS6 : na sR6 < 20 := by decide +kernel
theorem okS7 : okR sR7 := okR_addApp okS6 nS6 (by decide +kernel) (by decide +kernel) (by decide)
def sR8 : Nat → Int := addApp sR7 2 0 5 25
theorem nS7 : na sR7 < 20 := by decide +kernel
theorem okS8 : okR sR8 := okR_addApp okS7 nS7 (by decide +kernel) (by decide +kernel) (by decide)
def sR9 : Nat → Int := addApp sR8 3 1 0 9
theorem nS8 : na sR8 < 20 := by decide +kernel
theorem okS9 : okR sR9 := okR_addApp okS8 nS8 (by decide +kernel) (by decide +kernel) (by decide)
def sR10 : Nat → Int := addApp sR9 0 1 10 20
theorem nS9 : na sR9 < 20 := by decide +kernel
theorem okS10 : okR sR10 := okR_addApp okS9 nS9 (by decide +kernel) (by decide +kernel) (by decide)
def sR11 : Nat → Int := addApp sR10 4 1 3 20
theorem nS10 : na sR10 < 20 := by decide +kernel
theorem okS11 : okR sR11 := okR_addApp okS10 nS10 (by decide +kernel) (by decide +kernel) (by decide)
def sR12 : Nat → Int := addApp sR11 1 2 2 15
theorem nS11 : na sR11 < 20 := by decide +kernel
theorem okS12 : okR sR12 := okR_addApp okS11 nS11 (by decide +kernel) (by decide +kernel) (by decide)
def sR13 : Nat → Int := addApp sR12 3 2 20 40
theorem nS12 : na sR12 < 20 := by decide +kernel
theorem okS13 : okR sR13 := okR_addApp okS12 nS12 (by decide +kernel) (by decide +kernel) (by decide)
def sR14 : Nat → Int := addApp sR13 2 2 30 40
theorem nS13 : na sR13 < 20 := by decide +kernel
theorem okS14 : okR sR14 := okR_addApp okS13 nS13 (by decide +kernel) (by decide +kernel) (by decide)
theorem ini_row : ∀ k, k < 125 → sR14 k = (rdA iniT iniL).2.2 k := by decide +kernel

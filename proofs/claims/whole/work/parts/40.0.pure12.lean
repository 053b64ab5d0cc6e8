/-! PURE: a draft laid -/
def cpk (f : Nat → Nat) (off m : Nat) : Nat → Nat := fun k => if k < m then f (off + k) else f k
def cpt (f g : Nat → Nat) (m : Nat) : Nat → Nat := fun k => if 28 ≤ k ∧ k < 28 + m then g (k - 28) else f k
def cps (f g : Nat → Nat) (m : Nat) : Nat → Nat := fun k => if 1 ≤ k ∧ k < 1 + m then g (k - 1) else f k
theorem cpk_s {f : Nat → Nat} {off m : Nat} : va_up (cpk f off m) m (f (off + m)) = cpk f off (m + 1) := by
  funext k
  unfold va_up cpk
  by_cases e : k = m
  · subst e; rw [if_pos rfl, if_pos (by omega)]
  · rw [if_neg e]
    by_cases e2 : k < m
    · rw [if_pos e2, if_pos (by omega)]
    · rw [if_neg e2, if_neg (by omega)]
theorem cpt_s {f g : Nat → Nat} {m : Nat} : va_up (cpt f g m) (28 + m) (g m) = cpt f g (m + 1) := by
  funext k
  unfold va_up cpt
  by_cases e : k = 28 + m
  · subst e; rw [if_pos rfl, if_pos (by omega)]; congr 1; omega
  · rw [if_neg e]
    by_cases e2 : 28 ≤ k ∧ k < 28 + m
    · rw [if_pos e2, if_pos (by omega)]
    · rw [if_neg e2, if_neg (by omega)]
theorem cps_s {f g : Nat → Nat} {m : Nat} : va_up (cps f g m) (1 + m) (g m) = cps f g (m + 1) := by
  funext k
  unfold va_up cps
  by_cases e : k = 1 + m
  · subst e; rw [if_pos rfl, if_pos (by omega)]; congr 1; omega
  · rw [if_neg e]
    by_cases e2 : 1 ≤ k ∧ k < 1 + m
    · rw [if_pos e2, if_pos (by omega)]
    · rw [if_neg e2, if_neg (by omega)]
theorem cpk_0 {f : Nat → Nat} {off : Nat} : cpk f off 0 = f := by funext k; unfold cpk; rw [if_neg (by omega)]
theorem cpt_0 {f g : Nat → Nat} : cpt f g 0 = f := by funext k; unfold cpt; rw [if_neg (by omega)]
theorem cps_0 {f g : Nat → Nat} : cps f g 0 = f := by funext k; unfold cps; rw [if_neg (by omega)]
theorem cpk_hi {f : Nat → Nat} {off m k : Nat} (h : m ≤ k) : cpk f off m k = f k := by unfold cpk; rw [if_neg (by omega)]
theorem cpk_lo {f : Nat → Nat} {off m k : Nat} (h : k < m) : cpk f off m k = f (off + k) := by unfold cpk; rw [if_pos h]
def tk1 (s : Nat → Nat → Nat) : Nat → Nat → Nat := zuN (zuN (zuN s 111 0 (s 111 1)) 112 0 (s 112 1)) 116 0 (s 116 1)
def tk2 (s : Nat → Nat → Nat) (m : Nat) : Nat → Nat → Nat := va_up (va_up (va_up (tk1 s) 113 (cpk (s 113) 12 m)) 114 (cpk (s 114) 12 m)) 115 (cpk (s 115) 12 m)
def tk3 (s : Nat → Nat → Nat) (m : Nat) : Nat → Nat → Nat := va_up (va_up (va_up (va_up (tk2 s 12) 117 (cpk (s 117) 4 m)) 118 (cpk (s 118) 4 m)) 119 (cpk (s 119) 4 m)) 122 (cpt (s 122) (fun i => s 119 (4 + i)) m)
def tk4 (s : Nat → Nat → Nat) (m : Nat) : Nat → Nat → Nat := va_up (tk3 s 4) 120 (cpk (s 120) 3 m)
def tk5 (s : Nat → Nat → Nat) (m : Nat) : Nat → Nat → Nat := va_up (tk4 s 3) 122 (cps (va_up (cpt (s 122) (fun i => s 119 (4 + i)) 4) 0 (s 109 13)) (s 121) m)
def tk6 (s : Nat → Nat → Nat) : Nat → Nat → Nat := zuN (zuN (zuN (tk5 s (3 * s 109 13)) 109 18 0) 109 19 0) 109 33 0
/-- as laid -/
def sTk (s : Nat → Nat → Nat) : Nat → Nat → Nat := va_up (va_up (tk6 s) 123 (fun k => if k < 64 then nrS (tk6 s) none k else s 123 k)) 124 (fun k => if k < 64 then zFar (nrS (tk6 s) none) k else s 124 k)
theorem va_ext {s s2 : Nat → Nat → Nat} (h : ∀ a k, s a k = s2 a k) : s = s2 := funext fun a => funext fun k => h a k
theorem RefV.e {s s2 : Nat → Nat → Nat} {I : AI} (h : RefV s I) (e : ∀ a k, zrA a = true → s2 a k = s a k) : RefV s2 I := fun a k ha => by rw [e a k ha]; exact h a k ha
def aLay (s : Nat → Nat → Nat) : Int32 := match zPar 201 (sIni s) true 0 with
  | .inl _ => -2
  | .inr s3 => if s3 116 1 = 0 then -2 else nI (s3 111 1)

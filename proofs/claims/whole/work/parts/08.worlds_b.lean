section GTOP
variable {g : gG} {y : gM} {d rc rs : Nat} {Post : Nat → Nat → Option Value → va_W → Prop} {k j pc : Nat} {lv : List (Nat × Value)} {st : List Value} {ws : va_W}
theorem j_topN (a b : Nat) (h : a = b) (kk : gJ g y d rc rs Post k j pc lv (.int (nI b) :: st) ws) : gJ g y d rc rs Post k j pc lv (.int (nI a) :: st) ws := by subst h; exact kk
theorem j_topI (a b : Int32) (h : a = b) (kk : gJ g y d rc rs Post k j pc lv (.int b :: st) ws) : gJ g y d rc rs Post k j pc lv (.int a :: st) ws := by subst h; exact kk
theorem j_ws (ws2 : va_W) (h : ws = ws2) (kk : gJ g y d rc rs Post k j pc lv st ws2) : gJ g y d rc rs Post k j pc lv st ws := by subst h; exact kk
theorem j_lvs (lv2 : List (Nat × Value)) (h : lv = lv2) (kk : gJ g y d rc rs Post k j pc lv2 st ws) : gJ g y d rc rs Post k j pc lv st ws := by subst h; exact kk
end GTOP

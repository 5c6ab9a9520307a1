/-- no reference has changed but the script's command -/
def scR (sc : Nat) (R R' : MR) : Prop := ∀ q k, ¬ (q = sc ∧ k = 4) → R' q k = R q k
def scJ (sc : Nat) (J J' : MJ) : Prop := ∀ q, ¬ q = sc → J' q = J q
section CN
variable {R : MR} {S : Sh} {Q : SkQ} {sc n : Nat} {x : Nat → Int32}
end CN


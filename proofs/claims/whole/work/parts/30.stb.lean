section G30b
variable {E : GE} {M : GM} {d mc ms : Nat} {A : Nat → Prop} {Q : Option Value → va_W → Prop} {k n pc : Nat} {st : List Value} {ws : va_W} {ls : List (Option Value)}
end G30b

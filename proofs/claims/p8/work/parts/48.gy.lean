/-! YEARS of the class: how many there may be is looked at as a difference, by hand. -/
section GY
variable {X : Int → Int} {LX : Nat}
end GY

section XZ
variable {cc : ByteArray} {nL : Nat} {ret : Option FieldType} {own : String} {ini : Bool} {R : Room} {Z : xG → List Frame → Array Value → State → State → Prop} {pc : Nat} {lv : List (Nat × xv)} {st : List xv} {w : xSt} {cu su : Nat}
theorem x_ldcw {index : Nat} {v : Int32} (hd : decode cc pc = .ok (.ldc_w index, 3)) (hw : Cond.constant own index v ∈ xGW) (k : xX cc nL ret own ini R Z (pc + 3) lv (xI v :: st) w cu su) : xX cc nL ret own ini R Z pc lv st w cu su := by
  intro p l e s m args below meth c γ H locs cells slots ls C hH hS hB hc hs hl
  exact lv_ldcw C.1 C.2.1 C.2.2.2.2.2.1 (C.2.2.2.2.2.2.2.2 _ hw) hd (k p l e s m args below meth c γ H locs cells slots ls C hH hS hB hc hs hl)
end XZ

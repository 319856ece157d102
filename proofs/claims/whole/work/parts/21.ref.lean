def rAlu (f : Nat → Int32) (a : Nat → Nat → Int32) (p1 : Int32) (p2 : Int32) : (Nat → Int32) × (Nat → Nat → Int32) :=
  if p1 = (1 : Int32) then if (2 : Int32) ≤ p1 then if p1 = (2 : Int32) then if ((((((a 2) (7 : Int32).toNatClampNeg) &&& (15 : Int32)) + ((p2 ^^^ (-1 : Int32)) &&& (15 : Int32))) + (1 : Int32)) - (f 16)) ≤ (15 : Int32) then if 0 ≤ ((((a 2) (7 : Int32).toNatClampNeg) - p2) - (f 16)) then if (7 : Int32) ≤ p1 then (rSigns (upd (upd f 14 (0 : Int32)) 16 (0 : Int32)) a (((((a 2) (7 : Int32).toNatClampNeg) - p2) - (f 16)) &&& (255 : Int32)), a)
            else (rSigns (upd (upd f 14 (0 : Int32)) 16 (0 : Int32)) a (((((a 2) (7 : Int32).toNatClampNeg) - p2) - (f 16)) &&& (255 : Int32)), ua a 2 (upd (a 2) (7 : Int32).toNatClampNeg (((((a 2) (7 : Int32).toNatClampNeg) - p2) - (f 16)) &&& (255 : Int32))))
          else if (7 : Int32) ≤ p1 then (rSigns (upd (upd f 14 (0 : Int32)) 16 (1 : Int32)) a (((((a 2) (7 : Int32).toNatClampNeg) - p2) - (f 16)) &&& (255 : Int32)), a)
            else (rSigns (upd (upd f 14 (0 : Int32)) 16 (1 : Int32)) a (((((a 2) (7 : Int32).toNatClampNeg) - p2) - (f 16)) &&& (255 : Int32)), ua a 2 (upd (a 2) (7 : Int32).toNatClampNeg (((((a 2) (7 : Int32).toNatClampNeg) - p2) - (f 16)) &&& (255 : Int32))))
        else if 0 ≤ ((((a 2) (7 : Int32).toNatClampNeg) - p2) - (f 16)) then if (7 : Int32) ≤ p1 then (rSigns (upd (upd f 14 (1 : Int32)) 16 (0 : Int32)) a (((((a 2) (7 : Int32).toNatClampNeg) - p2) - (f 16)) &&& (255 : Int32)), a)
            else (rSigns (upd (upd f 14 (1 : Int32)) 16 (0 : Int32)) a (((((a 2) (7 : Int32).toNatClampNeg) - p2) - (f 16)) &&& (255 : Int32)), ua a 2 (upd (a 2) (7 : Int32).toNatClampNeg (((((a 2) (7 : Int32).toNatClampNeg) - p2) - (f 16)) &&& (255 : Int32))))
          else if (7 : Int32) ≤ p1 then (rSigns (upd (upd f 14 (1 : Int32)) 16 (1 : Int32)) a (((((a 2) (7 : Int32).toNatClampNeg) - p2) - (f 16)) &&& (255 : Int32)), a)
            else (rSigns (upd (upd f 14 (1 : Int32)) 16 (1 : Int32)) a (((((a 2) (7 : Int32).toNatClampNeg) - p2) - (f 16)) &&& (255 : Int32)), ua a 2 (upd (a 2) (7 : Int32).toNatClampNeg (((((a 2) (7 : Int32).toNatClampNeg) - p2) - (f 16)) &&& (255 : Int32))))
      else if p1 = (3 : Int32) then if ((((((a 2) (7 : Int32).toNatClampNeg) &&& (15 : Int32)) + ((p2 ^^^ (-1 : Int32)) &&& (15 : Int32))) + (1 : Int32)) - (f 16)) ≤ (15 : Int32) then if 0 ≤ ((((a 2) (7 : Int32).toNatClampNeg) - p2) - (f 16)) then if (7 : Int32) ≤ p1 then (rSigns (upd (upd f 14 (0 : Int32)) 16 (0 : Int32)) a (((((a 2) (7 : Int32).toNatClampNeg) - p2) - (f 16)) &&& (255 : Int32)), a)
              else (rSigns (upd (upd f 14 (0 : Int32)) 16 (0 : Int32)) a (((((a 2) (7 : Int32).toNatClampNeg) - p2) - (f 16)) &&& (255 : Int32)), ua a 2 (upd (a 2) (7 : Int32).toNatClampNeg (((((a 2) (7 : Int32).toNatClampNeg) - p2) - (f 16)) &&& (255 : Int32))))
            else if (7 : Int32) ≤ p1 then (rSigns (upd (upd f 14 (0 : Int32)) 16 (1 : Int32)) a (((((a 2) (7 : Int32).toNatClampNeg) - p2) - (f 16)) &&& (255 : Int32)), a)
              else (rSigns (upd (upd f 14 (0 : Int32)) 16 (1 : Int32)) a (((((a 2) (7 : Int32).toNatClampNeg) - p2) - (f 16)) &&& (255 : Int32)), ua a 2 (upd (a 2) (7 : Int32).toNatClampNeg (((((a 2) (7 : Int32).toNatClampNeg) - p2) - (f 16)) &&& (255 : Int32))))
          else if 0 ≤ ((((a 2) (7 : Int32).toNatClampNeg) - p2) - (f 16)) then if (7 : Int32) ≤ p1 then (rSigns (upd (upd f 14 (1 : Int32)) 16 (0 : Int32)) a (((((a 2) (7 : Int32).toNatClampNeg) - p2) - (f 16)) &&& (255 : Int32)), a)
              else (rSigns (upd (upd f 14 (1 : Int32)) 16 (0 : Int32)) a (((((a 2) (7 : Int32).toNatClampNeg) - p2) - (f 16)) &&& (255 : Int32)), ua a 2 (upd (a 2) (7 : Int32).toNatClampNeg (((((a 2) (7 : Int32).toNatClampNeg) - p2) - (f 16)) &&& (255 : Int32))))
            else if (7 : Int32) ≤ p1 then (rSigns (upd (upd f 14 (1 : Int32)) 16 (1 : Int32)) a (((((a 2) (7 : Int32).toNatClampNeg) - p2) - (f 16)) &&& (255 : Int32)), a)
              else (rSigns (upd (upd f 14 (1 : Int32)) 16 (1 : Int32)) a (((((a 2) (7 : Int32).toNatClampNeg) - p2) - (f 16)) &&& (255 : Int32)), ua a 2 (upd (a 2) (7 : Int32).toNatClampNeg (((((a 2) (7 : Int32).toNatClampNeg) - p2) - (f 16)) &&& (255 : Int32))))
        else if p1 = (7 : Int32) then if ((((((a 2) (7 : Int32).toNatClampNeg) &&& (15 : Int32)) + ((p2 ^^^ (-1 : Int32)) &&& (15 : Int32))) + (1 : Int32)) - (f 16)) ≤ (15 : Int32) then if 0 ≤ ((((a 2) (7 : Int32).toNatClampNeg) - p2) - (f 16)) then if (7 : Int32) ≤ p1 then (rSigns (upd (upd f 14 (0 : Int32)) 16 (0 : Int32)) a (((((a 2) (7 : Int32).toNatClampNeg) - p2) - (f 16)) &&& (255 : Int32)), a)
                else (rSigns (upd (upd f 14 (0 : Int32)) 16 (0 : Int32)) a (((((a 2) (7 : Int32).toNatClampNeg) - p2) - (f 16)) &&& (255 : Int32)), ua a 2 (upd (a 2) (7 : Int32).toNatClampNeg (((((a 2) (7 : Int32).toNatClampNeg) - p2) - (f 16)) &&& (255 : Int32))))
              else if (7 : Int32) ≤ p1 then (rSigns (upd (upd f 14 (0 : Int32)) 16 (1 : Int32)) a (((((a 2) (7 : Int32).toNatClampNeg) - p2) - (f 16)) &&& (255 : Int32)), a)
                else (rSigns (upd (upd f 14 (0 : Int32)) 16 (1 : Int32)) a (((((a 2) (7 : Int32).toNatClampNeg) - p2) - (f 16)) &&& (255 : Int32)), ua a 2 (upd (a 2) (7 : Int32).toNatClampNeg (((((a 2) (7 : Int32).toNatClampNeg) - p2) - (f 16)) &&& (255 : Int32))))
            else if 0 ≤ ((((a 2) (7 : Int32).toNatClampNeg) - p2) - (f 16)) then if (7 : Int32) ≤ p1 then (rSigns (upd (upd f 14 (1 : Int32)) 16 (0 : Int32)) a (((((a 2) (7 : Int32).toNatClampNeg) - p2) - (f 16)) &&& (255 : Int32)), a)
                else (rSigns (upd (upd f 14 (1 : Int32)) 16 (0 : Int32)) a (((((a 2) (7 : Int32).toNatClampNeg) - p2) - (f 16)) &&& (255 : Int32)), ua a 2 (upd (a 2) (7 : Int32).toNatClampNeg (((((a 2) (7 : Int32).toNatClampNeg) - p2) - (f 16)) &&& (255 : Int32))))
              else if (7 : Int32) ≤ p1 then (rSigns (upd (upd f 14 (1 : Int32)) 16 (1 : Int32)) a (((((a 2) (7 : Int32).toNatClampNeg) - p2) - (f 16)) &&& (255 : Int32)), a)
                else (rSigns (upd (upd f 14 (1 : Int32)) 16 (1 : Int32)) a (((((a 2) (7 : Int32).toNatClampNeg) - p2) - (f 16)) &&& (255 : Int32)), ua a 2 (upd (a 2) (7 : Int32).toNatClampNeg (((((a 2) (7 : Int32).toNatClampNeg) - p2) - (f 16)) &&& (255 : Int32))))
          else if p1 = (4 : Int32) then if p1 = (4 : Int32) then if (7 : Int32) ≤ p1 then (rSigns (upd (upd f 14 (((((a 2) (7 : Int32).toNatClampNeg) ||| p2) >>> ((3 : Int32) &&& 31)) &&& (1 : Int32))) 16 (0 : Int32)) a ((((a 2) (7 : Int32).toNatClampNeg) &&& p2) &&& (255 : Int32)), a)
                else (rSigns (upd (upd f 14 (((((a 2) (7 : Int32).toNatClampNeg) ||| p2) >>> ((3 : Int32) &&& 31)) &&& (1 : Int32))) 16 (0 : Int32)) a ((((a 2) (7 : Int32).toNatClampNeg) &&& p2) &&& (255 : Int32)), ua a 2 (upd (a 2) (7 : Int32).toNatClampNeg ((((a 2) (7 : Int32).toNatClampNeg) &&& p2) &&& (255 : Int32))))
              else if (7 : Int32) ≤ p1 then (rSigns (upd (upd f 14 (0 : Int32)) 16 (0 : Int32)) a ((((a 2) (7 : Int32).toNatClampNeg) &&& p2) &&& (255 : Int32)), a)
                else (rSigns (upd (upd f 14 (0 : Int32)) 16 (0 : Int32)) a ((((a 2) (7 : Int32).toNatClampNeg) &&& p2) &&& (255 : Int32)), ua a 2 (upd (a 2) (7 : Int32).toNatClampNeg ((((a 2) (7 : Int32).toNatClampNeg) &&& p2) &&& (255 : Int32))))
            else if p1 = (5 : Int32) then if p1 = (4 : Int32) then if (7 : Int32) ≤ p1 then (rSigns (upd (upd f 14 (((((a 2) (7 : Int32).toNatClampNeg) ||| p2) >>> ((3 : Int32) &&& 31)) &&& (1 : Int32))) 16 (0 : Int32)) a ((((a 2) (7 : Int32).toNatClampNeg) ^^^ p2) &&& (255 : Int32)), a)
                  else (rSigns (upd (upd f 14 (((((a 2) (7 : Int32).toNatClampNeg) ||| p2) >>> ((3 : Int32) &&& 31)) &&& (1 : Int32))) 16 (0 : Int32)) a ((((a 2) (7 : Int32).toNatClampNeg) ^^^ p2) &&& (255 : Int32)), ua a 2 (upd (a 2) (7 : Int32).toNatClampNeg ((((a 2) (7 : Int32).toNatClampNeg) ^^^ p2) &&& (255 : Int32))))
                else if (7 : Int32) ≤ p1 then (rSigns (upd (upd f 14 (0 : Int32)) 16 (0 : Int32)) a ((((a 2) (7 : Int32).toNatClampNeg) ^^^ p2) &&& (255 : Int32)), a)
                  else (rSigns (upd (upd f 14 (0 : Int32)) 16 (0 : Int32)) a ((((a 2) (7 : Int32).toNatClampNeg) ^^^ p2) &&& (255 : Int32)), ua a 2 (upd (a 2) (7 : Int32).toNatClampNeg ((((a 2) (7 : Int32).toNatClampNeg) ^^^ p2) &&& (255 : Int32))))
              else if p1 = (4 : Int32) then if (7 : Int32) ≤ p1 then (rSigns (upd (upd f 14 (((((a 2) (7 : Int32).toNatClampNeg) ||| p2) >>> ((3 : Int32) &&& 31)) &&& (1 : Int32))) 16 (0 : Int32)) a ((((a 2) (7 : Int32).toNatClampNeg) ||| p2) &&& (255 : Int32)), a)
                  else (rSigns (upd (upd f 14 (((((a 2) (7 : Int32).toNatClampNeg) ||| p2) >>> ((3 : Int32) &&& 31)) &&& (1 : Int32))) 16 (0 : Int32)) a ((((a 2) (7 : Int32).toNatClampNeg) ||| p2) &&& (255 : Int32)), ua a 2 (upd (a 2) (7 : Int32).toNatClampNeg ((((a 2) (7 : Int32).toNatClampNeg) ||| p2) &&& (255 : Int32))))
                else if (7 : Int32) ≤ p1 then (rSigns (upd (upd f 14 (0 : Int32)) 16 (0 : Int32)) a ((((a 2) (7 : Int32).toNatClampNeg) ||| p2) &&& (255 : Int32)), a)
                  else (rSigns (upd (upd f 14 (0 : Int32)) 16 (0 : Int32)) a ((((a 2) (7 : Int32).toNatClampNeg) ||| p2) &&& (255 : Int32)), ua a 2 (upd (a 2) (7 : Int32).toNatClampNeg ((((a 2) (7 : Int32).toNatClampNeg) ||| p2) &&& (255 : Int32))))
    else if (((((a 2) (7 : Int32).toNatClampNeg) &&& (15 : Int32)) + (p2 &&& (15 : Int32))) + (f 16)) ≤ (15 : Int32) then if ((((a 2) (7 : Int32).toNatClampNeg) + p2) + (f 16)) ≤ (255 : Int32) then if (7 : Int32) ≤ p1 then (rSigns (upd (upd f 14 (0 : Int32)) 16 (0 : Int32)) a (((((a 2) (7 : Int32).toNatClampNeg) + p2) + (f 16)) &&& (255 : Int32)), a)
          else (rSigns (upd (upd f 14 (0 : Int32)) 16 (0 : Int32)) a (((((a 2) (7 : Int32).toNatClampNeg) + p2) + (f 16)) &&& (255 : Int32)), ua a 2 (upd (a 2) (7 : Int32).toNatClampNeg (((((a 2) (7 : Int32).toNatClampNeg) + p2) + (f 16)) &&& (255 : Int32))))
        else if (7 : Int32) ≤ p1 then (rSigns (upd (upd f 14 (0 : Int32)) 16 (1 : Int32)) a (((((a 2) (7 : Int32).toNatClampNeg) + p2) + (f 16)) &&& (255 : Int32)), a)
          else (rSigns (upd (upd f 14 (0 : Int32)) 16 (1 : Int32)) a (((((a 2) (7 : Int32).toNatClampNeg) + p2) + (f 16)) &&& (255 : Int32)), ua a 2 (upd (a 2) (7 : Int32).toNatClampNeg (((((a 2) (7 : Int32).toNatClampNeg) + p2) + (f 16)) &&& (255 : Int32))))
      else if ((((a 2) (7 : Int32).toNatClampNeg) + p2) + (f 16)) ≤ (255 : Int32) then if (7 : Int32) ≤ p1 then (rSigns (upd (upd f 14 (1 : Int32)) 16 (0 : Int32)) a (((((a 2) (7 : Int32).toNatClampNeg) + p2) + (f 16)) &&& (255 : Int32)), a)
          else (rSigns (upd (upd f 14 (1 : Int32)) 16 (0 : Int32)) a (((((a 2) (7 : Int32).toNatClampNeg) + p2) + (f 16)) &&& (255 : Int32)), ua a 2 (upd (a 2) (7 : Int32).toNatClampNeg (((((a 2) (7 : Int32).toNatClampNeg) + p2) + (f 16)) &&& (255 : Int32))))
        else if (7 : Int32) ≤ p1 then (rSigns (upd (upd f 14 (1 : Int32)) 16 (1 : Int32)) a (((((a 2) (7 : Int32).toNatClampNeg) + p2) + (f 16)) &&& (255 : Int32)), a)
          else (rSigns (upd (upd f 14 (1 : Int32)) 16 (1 : Int32)) a (((((a 2) (7 : Int32).toNatClampNeg) + p2) + (f 16)) &&& (255 : Int32)), ua a 2 (upd (a 2) (7 : Int32).toNatClampNeg (((((a 2) (7 : Int32).toNatClampNeg) + p2) + (f 16)) &&& (255 : Int32))))
  else if p1 = (3 : Int32) then if (2 : Int32) ≤ p1 then if p1 = (2 : Int32) then if ((((((a 2) (7 : Int32).toNatClampNeg) &&& (15 : Int32)) + ((p2 ^^^ (-1 : Int32)) &&& (15 : Int32))) + (1 : Int32)) - (f 16)) ≤ (15 : Int32) then if 0 ≤ ((((a 2) (7 : Int32).toNatClampNeg) - p2) - (f 16)) then if (7 : Int32) ≤ p1 then (rSigns (upd (upd f 14 (0 : Int32)) 16 (0 : Int32)) a (((((a 2) (7 : Int32).toNatClampNeg) - p2) - (f 16)) &&& (255 : Int32)), a)
              else (rSigns (upd (upd f 14 (0 : Int32)) 16 (0 : Int32)) a (((((a 2) (7 : Int32).toNatClampNeg) - p2) - (f 16)) &&& (255 : Int32)), ua a 2 (upd (a 2) (7 : Int32).toNatClampNeg (((((a 2) (7 : Int32).toNatClampNeg) - p2) - (f 16)) &&& (255 : Int32))))
            else if (7 : Int32) ≤ p1 then (rSigns (upd (upd f 14 (0 : Int32)) 16 (1 : Int32)) a (((((a 2) (7 : Int32).toNatClampNeg) - p2) - (f 16)) &&& (255 : Int32)), a)
              else (rSigns (upd (upd f 14 (0 : Int32)) 16 (1 : Int32)) a (((((a 2) (7 : Int32).toNatClampNeg) - p2) - (f 16)) &&& (255 : Int32)), ua a 2 (upd (a 2) (7 : Int32).toNatClampNeg (((((a 2) (7 : Int32).toNatClampNeg) - p2) - (f 16)) &&& (255 : Int32))))
          else if 0 ≤ ((((a 2) (7 : Int32).toNatClampNeg) - p2) - (f 16)) then if (7 : Int32) ≤ p1 then (rSigns (upd (upd f 14 (1 : Int32)) 16 (0 : Int32)) a (((((a 2) (7 : Int32).toNatClampNeg) - p2) - (f 16)) &&& (255 : Int32)), a)
              else (rSigns (upd (upd f 14 (1 : Int32)) 16 (0 : Int32)) a (((((a 2) (7 : Int32).toNatClampNeg) - p2) - (f 16)) &&& (255 : Int32)), ua a 2 (upd (a 2) (7 : Int32).toNatClampNeg (((((a 2) (7 : Int32).toNatClampNeg) - p2) - (f 16)) &&& (255 : Int32))))
            else if (7 : Int32) ≤ p1 then (rSigns (upd (upd f 14 (1 : Int32)) 16 (1 : Int32)) a (((((a 2) (7 : Int32).toNatClampNeg) - p2) - (f 16)) &&& (255 : Int32)), a)
              else (rSigns (upd (upd f 14 (1 : Int32)) 16 (1 : Int32)) a (((((a 2) (7 : Int32).toNatClampNeg) - p2) - (f 16)) &&& (255 : Int32)), ua a 2 (upd (a 2) (7 : Int32).toNatClampNeg (((((a 2) (7 : Int32).toNatClampNeg) - p2) - (f 16)) &&& (255 : Int32))))
        else if p1 = (3 : Int32) then if ((((((a 2) (7 : Int32).toNatClampNeg) &&& (15 : Int32)) + ((p2 ^^^ (-1 : Int32)) &&& (15 : Int32))) + (1 : Int32)) - (f 16)) ≤ (15 : Int32) then if 0 ≤ ((((a 2) (7 : Int32).toNatClampNeg) - p2) - (f 16)) then if (7 : Int32) ≤ p1 then (rSigns (upd (upd f 14 (0 : Int32)) 16 (0 : Int32)) a (((((a 2) (7 : Int32).toNatClampNeg) - p2) - (f 16)) &&& (255 : Int32)), a)
                else (rSigns (upd (upd f 14 (0 : Int32)) 16 (0 : Int32)) a (((((a 2) (7 : Int32).toNatClampNeg) - p2) - (f 16)) &&& (255 : Int32)), ua a 2 (upd (a 2) (7 : Int32).toNatClampNeg (((((a 2) (7 : Int32).toNatClampNeg) - p2) - (f 16)) &&& (255 : Int32))))
              else if (7 : Int32) ≤ p1 then (rSigns (upd (upd f 14 (0 : Int32)) 16 (1 : Int32)) a (((((a 2) (7 : Int32).toNatClampNeg) - p2) - (f 16)) &&& (255 : Int32)), a)
                else (rSigns (upd (upd f 14 (0 : Int32)) 16 (1 : Int32)) a (((((a 2) (7 : Int32).toNatClampNeg) - p2) - (f 16)) &&& (255 : Int32)), ua a 2 (upd (a 2) (7 : Int32).toNatClampNeg (((((a 2) (7 : Int32).toNatClampNeg) - p2) - (f 16)) &&& (255 : Int32))))
            else if 0 ≤ ((((a 2) (7 : Int32).toNatClampNeg) - p2) - (f 16)) then if (7 : Int32) ≤ p1 then (rSigns (upd (upd f 14 (1 : Int32)) 16 (0 : Int32)) a (((((a 2) (7 : Int32).toNatClampNeg) - p2) - (f 16)) &&& (255 : Int32)), a)
                else (rSigns (upd (upd f 14 (1 : Int32)) 16 (0 : Int32)) a (((((a 2) (7 : Int32).toNatClampNeg) - p2) - (f 16)) &&& (255 : Int32)), ua a 2 (upd (a 2) (7 : Int32).toNatClampNeg (((((a 2) (7 : Int32).toNatClampNeg) - p2) - (f 16)) &&& (255 : Int32))))
              else if (7 : Int32) ≤ p1 then (rSigns (upd (upd f 14 (1 : Int32)) 16 (1 : Int32)) a (((((a 2) (7 : Int32).toNatClampNeg) - p2) - (f 16)) &&& (255 : Int32)), a)
                else (rSigns (upd (upd f 14 (1 : Int32)) 16 (1 : Int32)) a (((((a 2) (7 : Int32).toNatClampNeg) - p2) - (f 16)) &&& (255 : Int32)), ua a 2 (upd (a 2) (7 : Int32).toNatClampNeg (((((a 2) (7 : Int32).toNatClampNeg) - p2) - (f 16)) &&& (255 : Int32))))
          else if p1 = (7 : Int32) then if ((((((a 2) (7 : Int32).toNatClampNeg) &&& (15 : Int32)) + ((p2 ^^^ (-1 : Int32)) &&& (15 : Int32))) + (1 : Int32)) - (f 16)) ≤ (15 : Int32) then if 0 ≤ ((((a 2) (7 : Int32).toNatClampNeg) - p2) - (f 16)) then if (7 : Int32) ≤ p1 then (rSigns (upd (upd f 14 (0 : Int32)) 16 (0 : Int32)) a (((((a 2) (7 : Int32).toNatClampNeg) - p2) - (f 16)) &&& (255 : Int32)), a)
                  else (rSigns (upd (upd f 14 (0 : Int32)) 16 (0 : Int32)) a (((((a 2) (7 : Int32).toNatClampNeg) - p2) - (f 16)) &&& (255 : Int32)), ua a 2 (upd (a 2) (7 : Int32).toNatClampNeg (((((a 2) (7 : Int32).toNatClampNeg) - p2) - (f 16)) &&& (255 : Int32))))
                else if (7 : Int32) ≤ p1 then (rSigns (upd (upd f 14 (0 : Int32)) 16 (1 : Int32)) a (((((a 2) (7 : Int32).toNatClampNeg) - p2) - (f 16)) &&& (255 : Int32)), a)
                  else (rSigns (upd (upd f 14 (0 : Int32)) 16 (1 : Int32)) a (((((a 2) (7 : Int32).toNatClampNeg) - p2) - (f 16)) &&& (255 : Int32)), ua a 2 (upd (a 2) (7 : Int32).toNatClampNeg (((((a 2) (7 : Int32).toNatClampNeg) - p2) - (f 16)) &&& (255 : Int32))))
              else if 0 ≤ ((((a 2) (7 : Int32).toNatClampNeg) - p2) - (f 16)) then if (7 : Int32) ≤ p1 then (rSigns (upd (upd f 14 (1 : Int32)) 16 (0 : Int32)) a (((((a 2) (7 : Int32).toNatClampNeg) - p2) - (f 16)) &&& (255 : Int32)), a)
                  else (rSigns (upd (upd f 14 (1 : Int32)) 16 (0 : Int32)) a (((((a 2) (7 : Int32).toNatClampNeg) - p2) - (f 16)) &&& (255 : Int32)), ua a 2 (upd (a 2) (7 : Int32).toNatClampNeg (((((a 2) (7 : Int32).toNatClampNeg) - p2) - (f 16)) &&& (255 : Int32))))
                else if (7 : Int32) ≤ p1 then (rSigns (upd (upd f 14 (1 : Int32)) 16 (1 : Int32)) a (((((a 2) (7 : Int32).toNatClampNeg) - p2) - (f 16)) &&& (255 : Int32)), a)
                  else (rSigns (upd (upd f 14 (1 : Int32)) 16 (1 : Int32)) a (((((a 2) (7 : Int32).toNatClampNeg) - p2) - (f 16)) &&& (255 : Int32)), ua a 2 (upd (a 2) (7 : Int32).toNatClampNeg (((((a 2) (7 : Int32).toNatClampNeg) - p2) - (f 16)) &&& (255 : Int32))))
            else if p1 = (4 : Int32) then if p1 = (4 : Int32) then if (7 : Int32) ≤ p1 then (rSigns (upd (upd f 14 (((((a 2) (7 : Int32).toNatClampNeg) ||| p2) >>> ((3 : Int32) &&& 31)) &&& (1 : Int32))) 16 (0 : Int32)) a ((((a 2) (7 : Int32).toNatClampNeg) &&& p2) &&& (255 : Int32)), a)
                  else (rSigns (upd (upd f 14 (((((a 2) (7 : Int32).toNatClampNeg) ||| p2) >>> ((3 : Int32) &&& 31)) &&& (1 : Int32))) 16 (0 : Int32)) a ((((a 2) (7 : Int32).toNatClampNeg) &&& p2) &&& (255 : Int32)), ua a 2 (upd (a 2) (7 : Int32).toNatClampNeg ((((a 2) (7 : Int32).toNatClampNeg) &&& p2) &&& (255 : Int32))))
                else if (7 : Int32) ≤ p1 then (rSigns (upd (upd f 14 (0 : Int32)) 16 (0 : Int32)) a ((((a 2) (7 : Int32).toNatClampNeg) &&& p2) &&& (255 : Int32)), a)
                  else (rSigns (upd (upd f 14 (0 : Int32)) 16 (0 : Int32)) a ((((a 2) (7 : Int32).toNatClampNeg) &&& p2) &&& (255 : Int32)), ua a 2 (upd (a 2) (7 : Int32).toNatClampNeg ((((a 2) (7 : Int32).toNatClampNeg) &&& p2) &&& (255 : Int32))))
              else if p1 = (5 : Int32) then if p1 = (4 : Int32) then if (7 : Int32) ≤ p1 then (rSigns (upd (upd f 14 (((((a 2) (7 : Int32).toNatClampNeg) ||| p2) >>> ((3 : Int32) &&& 31)) &&& (1 : Int32))) 16 (0 : Int32)) a ((((a 2) (7 : Int32).toNatClampNeg) ^^^ p2) &&& (255 : Int32)), a)
                    else (rSigns (upd (upd f 14 (((((a 2) (7 : Int32).toNatClampNeg) ||| p2) >>> ((3 : Int32) &&& 31)) &&& (1 : Int32))) 16 (0 : Int32)) a ((((a 2) (7 : Int32).toNatClampNeg) ^^^ p2) &&& (255 : Int32)), ua a 2 (upd (a 2) (7 : Int32).toNatClampNeg ((((a 2) (7 : Int32).toNatClampNeg) ^^^ p2) &&& (255 : Int32))))
                  else if (7 : Int32) ≤ p1 then (rSigns (upd (upd f 14 (0 : Int32)) 16 (0 : Int32)) a ((((a 2) (7 : Int32).toNatClampNeg) ^^^ p2) &&& (255 : Int32)), a)
                    else (rSigns (upd (upd f 14 (0 : Int32)) 16 (0 : Int32)) a ((((a 2) (7 : Int32).toNatClampNeg) ^^^ p2) &&& (255 : Int32)), ua a 2 (upd (a 2) (7 : Int32).toNatClampNeg ((((a 2) (7 : Int32).toNatClampNeg) ^^^ p2) &&& (255 : Int32))))
                else if p1 = (4 : Int32) then if (7 : Int32) ≤ p1 then (rSigns (upd (upd f 14 (((((a 2) (7 : Int32).toNatClampNeg) ||| p2) >>> ((3 : Int32) &&& 31)) &&& (1 : Int32))) 16 (0 : Int32)) a ((((a 2) (7 : Int32).toNatClampNeg) ||| p2) &&& (255 : Int32)), a)
                    else (rSigns (upd (upd f 14 (((((a 2) (7 : Int32).toNatClampNeg) ||| p2) >>> ((3 : Int32) &&& 31)) &&& (1 : Int32))) 16 (0 : Int32)) a ((((a 2) (7 : Int32).toNatClampNeg) ||| p2) &&& (255 : Int32)), ua a 2 (upd (a 2) (7 : Int32).toNatClampNeg ((((a 2) (7 : Int32).toNatClampNeg) ||| p2) &&& (255 : Int32))))
                  else if (7 : Int32) ≤ p1 then (rSigns (upd (upd f 14 (0 : Int32)) 16 (0 : Int32)) a ((((a 2) (7 : Int32).toNatClampNeg) ||| p2) &&& (255 : Int32)), a)
                    else (rSigns (upd (upd f 14 (0 : Int32)) 16 (0 : Int32)) a ((((a 2) (7 : Int32).toNatClampNeg) ||| p2) &&& (255 : Int32)), ua a 2 (upd (a 2) (7 : Int32).toNatClampNeg ((((a 2) (7 : Int32).toNatClampNeg) ||| p2) &&& (255 : Int32))))
      else if (((((a 2) (7 : Int32).toNatClampNeg) &&& (15 : Int32)) + (p2 &&& (15 : Int32))) + (f 16)) ≤ (15 : Int32) then if ((((a 2) (7 : Int32).toNatClampNeg) + p2) + (f 16)) ≤ (255 : Int32) then if (7 : Int32) ≤ p1 then (rSigns (upd (upd f 14 (0 : Int32)) 16 (0 : Int32)) a (((((a 2) (7 : Int32).toNatClampNeg) + p2) + (f 16)) &&& (255 : Int32)), a)
            else (rSigns (upd (upd f 14 (0 : Int32)) 16 (0 : Int32)) a (((((a 2) (7 : Int32).toNatClampNeg) + p2) + (f 16)) &&& (255 : Int32)), ua a 2 (upd (a 2) (7 : Int32).toNatClampNeg (((((a 2) (7 : Int32).toNatClampNeg) + p2) + (f 16)) &&& (255 : Int32))))
          else if (7 : Int32) ≤ p1 then (rSigns (upd (upd f 14 (0 : Int32)) 16 (1 : Int32)) a (((((a 2) (7 : Int32).toNatClampNeg) + p2) + (f 16)) &&& (255 : Int32)), a)
            else (rSigns (upd (upd f 14 (0 : Int32)) 16 (1 : Int32)) a (((((a 2) (7 : Int32).toNatClampNeg) + p2) + (f 16)) &&& (255 : Int32)), ua a 2 (upd (a 2) (7 : Int32).toNatClampNeg (((((a 2) (7 : Int32).toNatClampNeg) + p2) + (f 16)) &&& (255 : Int32))))
        else if ((((a 2) (7 : Int32).toNatClampNeg) + p2) + (f 16)) ≤ (255 : Int32) then if (7 : Int32) ≤ p1 then (rSigns (upd (upd f 14 (1 : Int32)) 16 (0 : Int32)) a (((((a 2) (7 : Int32).toNatClampNeg) + p2) + (f 16)) &&& (255 : Int32)), a)
            else (rSigns (upd (upd f 14 (1 : Int32)) 16 (0 : Int32)) a (((((a 2) (7 : Int32).toNatClampNeg) + p2) + (f 16)) &&& (255 : Int32)), ua a 2 (upd (a 2) (7 : Int32).toNatClampNeg (((((a 2) (7 : Int32).toNatClampNeg) + p2) + (f 16)) &&& (255 : Int32))))
          else if (7 : Int32) ≤ p1 then (rSigns (upd (upd f 14 (1 : Int32)) 16 (1 : Int32)) a (((((a 2) (7 : Int32).toNatClampNeg) + p2) + (f 16)) &&& (255 : Int32)), a)
            else (rSigns (upd (upd f 14 (1 : Int32)) 16 (1 : Int32)) a (((((a 2) (7 : Int32).toNatClampNeg) + p2) + (f 16)) &&& (255 : Int32)), ua a 2 (upd (a 2) (7 : Int32).toNatClampNeg (((((a 2) (7 : Int32).toNatClampNeg) + p2) + (f 16)) &&& (255 : Int32))))
    else if (2 : Int32) ≤ p1 then if p1 = (2 : Int32) then if ((((((a 2) (7 : Int32).toNatClampNeg) &&& (15 : Int32)) + ((p2 ^^^ (-1 : Int32)) &&& (15 : Int32))) + (1 : Int32)) - (0 : Int32)) ≤ (15 : Int32) then if 0 ≤ ((((a 2) (7 : Int32).toNatClampNeg) - p2) - (0 : Int32)) then if (7 : Int32) ≤ p1 then (rSigns (upd (upd f 14 (0 : Int32)) 16 (0 : Int32)) a (((((a 2) (7 : Int32).toNatClampNeg) - p2) - (0 : Int32)) &&& (255 : Int32)), a)
              else (rSigns (upd (upd f 14 (0 : Int32)) 16 (0 : Int32)) a (((((a 2) (7 : Int32).toNatClampNeg) - p2) - (0 : Int32)) &&& (255 : Int32)), ua a 2 (upd (a 2) (7 : Int32).toNatClampNeg (((((a 2) (7 : Int32).toNatClampNeg) - p2) - (0 : Int32)) &&& (255 : Int32))))
            else if (7 : Int32) ≤ p1 then (rSigns (upd (upd f 14 (0 : Int32)) 16 (1 : Int32)) a (((((a 2) (7 : Int32).toNatClampNeg) - p2) - (0 : Int32)) &&& (255 : Int32)), a)
              else (rSigns (upd (upd f 14 (0 : Int32)) 16 (1 : Int32)) a (((((a 2) (7 : Int32).toNatClampNeg) - p2) - (0 : Int32)) &&& (255 : Int32)), ua a 2 (upd (a 2) (7 : Int32).toNatClampNeg (((((a 2) (7 : Int32).toNatClampNeg) - p2) - (0 : Int32)) &&& (255 : Int32))))
          else if 0 ≤ ((((a 2) (7 : Int32).toNatClampNeg) - p2) - (0 : Int32)) then if (7 : Int32) ≤ p1 then (rSigns (upd (upd f 14 (1 : Int32)) 16 (0 : Int32)) a (((((a 2) (7 : Int32).toNatClampNeg) - p2) - (0 : Int32)) &&& (255 : Int32)), a)
              else (rSigns (upd (upd f 14 (1 : Int32)) 16 (0 : Int32)) a (((((a 2) (7 : Int32).toNatClampNeg) - p2) - (0 : Int32)) &&& (255 : Int32)), ua a 2 (upd (a 2) (7 : Int32).toNatClampNeg (((((a 2) (7 : Int32).toNatClampNeg) - p2) - (0 : Int32)) &&& (255 : Int32))))
            else if (7 : Int32) ≤ p1 then (rSigns (upd (upd f 14 (1 : Int32)) 16 (1 : Int32)) a (((((a 2) (7 : Int32).toNatClampNeg) - p2) - (0 : Int32)) &&& (255 : Int32)), a)
              else (rSigns (upd (upd f 14 (1 : Int32)) 16 (1 : Int32)) a (((((a 2) (7 : Int32).toNatClampNeg) - p2) - (0 : Int32)) &&& (255 : Int32)), ua a 2 (upd (a 2) (7 : Int32).toNatClampNeg (((((a 2) (7 : Int32).toNatClampNeg) - p2) - (0 : Int32)) &&& (255 : Int32))))
        else if p1 = (3 : Int32) then if ((((((a 2) (7 : Int32).toNatClampNeg) &&& (15 : Int32)) + ((p2 ^^^ (-1 : Int32)) &&& (15 : Int32))) + (1 : Int32)) - (0 : Int32)) ≤ (15 : Int32) then if 0 ≤ ((((a 2) (7 : Int32).toNatClampNeg) - p2) - (0 : Int32)) then if (7 : Int32) ≤ p1 then (rSigns (upd (upd f 14 (0 : Int32)) 16 (0 : Int32)) a (((((a 2) (7 : Int32).toNatClampNeg) - p2) - (0 : Int32)) &&& (255 : Int32)), a)
                else (rSigns (upd (upd f 14 (0 : Int32)) 16 (0 : Int32)) a (((((a 2) (7 : Int32).toNatClampNeg) - p2) - (0 : Int32)) &&& (255 : Int32)), ua a 2 (upd (a 2) (7 : Int32).toNatClampNeg (((((a 2) (7 : Int32).toNatClampNeg) - p2) - (0 : Int32)) &&& (255 : Int32))))
              else if (7 : Int32) ≤ p1 then (rSigns (upd (upd f 14 (0 : Int32)) 16 (1 : Int32)) a (((((a 2) (7 : Int32).toNatClampNeg) - p2) - (0 : Int32)) &&& (255 : Int32)), a)
                else (rSigns (upd (upd f 14 (0 : Int32)) 16 (1 : Int32)) a (((((a 2) (7 : Int32).toNatClampNeg) - p2) - (0 : Int32)) &&& (255 : Int32)), ua a 2 (upd (a 2) (7 : Int32).toNatClampNeg (((((a 2) (7 : Int32).toNatClampNeg) - p2) - (0 : Int32)) &&& (255 : Int32))))
            else if 0 ≤ ((((a 2) (7 : Int32).toNatClampNeg) - p2) - (0 : Int32)) then if (7 : Int32) ≤ p1 then (rSigns (upd (upd f 14 (1 : Int32)) 16 (0 : Int32)) a (((((a 2) (7 : Int32).toNatClampNeg) - p2) - (0 : Int32)) &&& (255 : Int32)), a)
                else (rSigns (upd (upd f 14 (1 : Int32)) 16 (0 : Int32)) a (((((a 2) (7 : Int32).toNatClampNeg) - p2) - (0 : Int32)) &&& (255 : Int32)), ua a 2 (upd (a 2) (7 : Int32).toNatClampNeg (((((a 2) (7 : Int32).toNatClampNeg) - p2) - (0 : Int32)) &&& (255 : Int32))))
              else if (7 : Int32) ≤ p1 then (rSigns (upd (upd f 14 (1 : Int32)) 16 (1 : Int32)) a (((((a 2) (7 : Int32).toNatClampNeg) - p2) - (0 : Int32)) &&& (255 : Int32)), a)
                else (rSigns (upd (upd f 14 (1 : Int32)) 16 (1 : Int32)) a (((((a 2) (7 : Int32).toNatClampNeg) - p2) - (0 : Int32)) &&& (255 : Int32)), ua a 2 (upd (a 2) (7 : Int32).toNatClampNeg (((((a 2) (7 : Int32).toNatClampNeg) - p2) - (0 : Int32)) &&& (255 : Int32))))
          else if p1 = (7 : Int32) then if ((((((a 2) (7 : Int32).toNatClampNeg) &&& (15 : Int32)) + ((p2 ^^^ (-1 : Int32)) &&& (15 : Int32))) + (1 : Int32)) - (0 : Int32)) ≤ (15 : Int32) then if 0 ≤ ((((a 2) (7 : Int32).toNatClampNeg) - p2) - (0 : Int32)) then if (7 : Int32) ≤ p1 then (rSigns (upd (upd f 14 (0 : Int32)) 16 (0 : Int32)) a (((((a 2) (7 : Int32).toNatClampNeg) - p2) - (0 : Int32)) &&& (255 : Int32)), a)
                  else (rSigns (upd (upd f 14 (0 : Int32)) 16 (0 : Int32)) a (((((a 2) (7 : Int32).toNatClampNeg) - p2) - (0 : Int32)) &&& (255 : Int32)), ua a 2 (upd (a 2) (7 : Int32).toNatClampNeg (((((a 2) (7 : Int32).toNatClampNeg) - p2) - (0 : Int32)) &&& (255 : Int32))))
                else if (7 : Int32) ≤ p1 then (rSigns (upd (upd f 14 (0 : Int32)) 16 (1 : Int32)) a (((((a 2) (7 : Int32).toNatClampNeg) - p2) - (0 : Int32)) &&& (255 : Int32)), a)
                  else (rSigns (upd (upd f 14 (0 : Int32)) 16 (1 : Int32)) a (((((a 2) (7 : Int32).toNatClampNeg) - p2) - (0 : Int32)) &&& (255 : Int32)), ua a 2 (upd (a 2) (7 : Int32).toNatClampNeg (((((a 2) (7 : Int32).toNatClampNeg) - p2) - (0 : Int32)) &&& (255 : Int32))))
              else if 0 ≤ ((((a 2) (7 : Int32).toNatClampNeg) - p2) - (0 : Int32)) then if (7 : Int32) ≤ p1 then (rSigns (upd (upd f 14 (1 : Int32)) 16 (0 : Int32)) a (((((a 2) (7 : Int32).toNatClampNeg) - p2) - (0 : Int32)) &&& (255 : Int32)), a)
                  else (rSigns (upd (upd f 14 (1 : Int32)) 16 (0 : Int32)) a (((((a 2) (7 : Int32).toNatClampNeg) - p2) - (0 : Int32)) &&& (255 : Int32)), ua a 2 (upd (a 2) (7 : Int32).toNatClampNeg (((((a 2) (7 : Int32).toNatClampNeg) - p2) - (0 : Int32)) &&& (255 : Int32))))
                else if (7 : Int32) ≤ p1 then (rSigns (upd (upd f 14 (1 : Int32)) 16 (1 : Int32)) a (((((a 2) (7 : Int32).toNatClampNeg) - p2) - (0 : Int32)) &&& (255 : Int32)), a)
                  else (rSigns (upd (upd f 14 (1 : Int32)) 16 (1 : Int32)) a (((((a 2) (7 : Int32).toNatClampNeg) - p2) - (0 : Int32)) &&& (255 : Int32)), ua a 2 (upd (a 2) (7 : Int32).toNatClampNeg (((((a 2) (7 : Int32).toNatClampNeg) - p2) - (0 : Int32)) &&& (255 : Int32))))
            else if p1 = (4 : Int32) then if p1 = (4 : Int32) then if (7 : Int32) ≤ p1 then (rSigns (upd (upd f 14 (((((a 2) (7 : Int32).toNatClampNeg) ||| p2) >>> ((3 : Int32) &&& 31)) &&& (1 : Int32))) 16 (0 : Int32)) a ((((a 2) (7 : Int32).toNatClampNeg) &&& p2) &&& (255 : Int32)), a)
                  else (rSigns (upd (upd f 14 (((((a 2) (7 : Int32).toNatClampNeg) ||| p2) >>> ((3 : Int32) &&& 31)) &&& (1 : Int32))) 16 (0 : Int32)) a ((((a 2) (7 : Int32).toNatClampNeg) &&& p2) &&& (255 : Int32)), ua a 2 (upd (a 2) (7 : Int32).toNatClampNeg ((((a 2) (7 : Int32).toNatClampNeg) &&& p2) &&& (255 : Int32))))
                else if (7 : Int32) ≤ p1 then (rSigns (upd (upd f 14 (0 : Int32)) 16 (0 : Int32)) a ((((a 2) (7 : Int32).toNatClampNeg) &&& p2) &&& (255 : Int32)), a)
                  else (rSigns (upd (upd f 14 (0 : Int32)) 16 (0 : Int32)) a ((((a 2) (7 : Int32).toNatClampNeg) &&& p2) &&& (255 : Int32)), ua a 2 (upd (a 2) (7 : Int32).toNatClampNeg ((((a 2) (7 : Int32).toNatClampNeg) &&& p2) &&& (255 : Int32))))
              else if p1 = (5 : Int32) then if p1 = (4 : Int32) then if (7 : Int32) ≤ p1 then (rSigns (upd (upd f 14 (((((a 2) (7 : Int32).toNatClampNeg) ||| p2) >>> ((3 : Int32) &&& 31)) &&& (1 : Int32))) 16 (0 : Int32)) a ((((a 2) (7 : Int32).toNatClampNeg) ^^^ p2) &&& (255 : Int32)), a)
                    else (rSigns (upd (upd f 14 (((((a 2) (7 : Int32).toNatClampNeg) ||| p2) >>> ((3 : Int32) &&& 31)) &&& (1 : Int32))) 16 (0 : Int32)) a ((((a 2) (7 : Int32).toNatClampNeg) ^^^ p2) &&& (255 : Int32)), ua a 2 (upd (a 2) (7 : Int32).toNatClampNeg ((((a 2) (7 : Int32).toNatClampNeg) ^^^ p2) &&& (255 : Int32))))
                  else if (7 : Int32) ≤ p1 then (rSigns (upd (upd f 14 (0 : Int32)) 16 (0 : Int32)) a ((((a 2) (7 : Int32).toNatClampNeg) ^^^ p2) &&& (255 : Int32)), a)
                    else (rSigns (upd (upd f 14 (0 : Int32)) 16 (0 : Int32)) a ((((a 2) (7 : Int32).toNatClampNeg) ^^^ p2) &&& (255 : Int32)), ua a 2 (upd (a 2) (7 : Int32).toNatClampNeg ((((a 2) (7 : Int32).toNatClampNeg) ^^^ p2) &&& (255 : Int32))))
                else if p1 = (4 : Int32) then if (7 : Int32) ≤ p1 then (rSigns (upd (upd f 14 (((((a 2) (7 : Int32).toNatClampNeg) ||| p2) >>> ((3 : Int32) &&& 31)) &&& (1 : Int32))) 16 (0 : Int32)) a ((((a 2) (7 : Int32).toNatClampNeg) ||| p2) &&& (255 : Int32)), a)
                    else (rSigns (upd (upd f 14 (((((a 2) (7 : Int32).toNatClampNeg) ||| p2) >>> ((3 : Int32) &&& 31)) &&& (1 : Int32))) 16 (0 : Int32)) a ((((a 2) (7 : Int32).toNatClampNeg) ||| p2) &&& (255 : Int32)), ua a 2 (upd (a 2) (7 : Int32).toNatClampNeg ((((a 2) (7 : Int32).toNatClampNeg) ||| p2) &&& (255 : Int32))))
                  else if (7 : Int32) ≤ p1 then (rSigns (upd (upd f 14 (0 : Int32)) 16 (0 : Int32)) a ((((a 2) (7 : Int32).toNatClampNeg) ||| p2) &&& (255 : Int32)), a)
                    else (rSigns (upd (upd f 14 (0 : Int32)) 16 (0 : Int32)) a ((((a 2) (7 : Int32).toNatClampNeg) ||| p2) &&& (255 : Int32)), ua a 2 (upd (a 2) (7 : Int32).toNatClampNeg ((((a 2) (7 : Int32).toNatClampNeg) ||| p2) &&& (255 : Int32))))
      else if (((((a 2) (7 : Int32).toNatClampNeg) &&& (15 : Int32)) + (p2 &&& (15 : Int32))) + (0 : Int32)) ≤ (15 : Int32) then if ((((a 2) (7 : Int32).toNatClampNeg) + p2) + (0 : Int32)) ≤ (255 : Int32) then if (7 : Int32) ≤ p1 then (rSigns (upd (upd f 14 (0 : Int32)) 16 (0 : Int32)) a (((((a 2) (7 : Int32).toNatClampNeg) + p2) + (0 : Int32)) &&& (255 : Int32)), a)
            else (rSigns (upd (upd f 14 (0 : Int32)) 16 (0 : Int32)) a (((((a 2) (7 : Int32).toNatClampNeg) + p2) + (0 : Int32)) &&& (255 : Int32)), ua a 2 (upd (a 2) (7 : Int32).toNatClampNeg (((((a 2) (7 : Int32).toNatClampNeg) + p2) + (0 : Int32)) &&& (255 : Int32))))
          else if (7 : Int32) ≤ p1 then (rSigns (upd (upd f 14 (0 : Int32)) 16 (1 : Int32)) a (((((a 2) (7 : Int32).toNatClampNeg) + p2) + (0 : Int32)) &&& (255 : Int32)), a)
            else (rSigns (upd (upd f 14 (0 : Int32)) 16 (1 : Int32)) a (((((a 2) (7 : Int32).toNatClampNeg) + p2) + (0 : Int32)) &&& (255 : Int32)), ua a 2 (upd (a 2) (7 : Int32).toNatClampNeg (((((a 2) (7 : Int32).toNatClampNeg) + p2) + (0 : Int32)) &&& (255 : Int32))))
        else if ((((a 2) (7 : Int32).toNatClampNeg) + p2) + (0 : Int32)) ≤ (255 : Int32) then if (7 : Int32) ≤ p1 then (rSigns (upd (upd f 14 (1 : Int32)) 16 (0 : Int32)) a (((((a 2) (7 : Int32).toNatClampNeg) + p2) + (0 : Int32)) &&& (255 : Int32)), a)
            else (rSigns (upd (upd f 14 (1 : Int32)) 16 (0 : Int32)) a (((((a 2) (7 : Int32).toNatClampNeg) + p2) + (0 : Int32)) &&& (255 : Int32)), ua a 2 (upd (a 2) (7 : Int32).toNatClampNeg (((((a 2) (7 : Int32).toNatClampNeg) + p2) + (0 : Int32)) &&& (255 : Int32))))
          else if (7 : Int32) ≤ p1 then (rSigns (upd (upd f 14 (1 : Int32)) 16 (1 : Int32)) a (((((a 2) (7 : Int32).toNatClampNeg) + p2) + (0 : Int32)) &&& (255 : Int32)), a)
            else (rSigns (upd (upd f 14 (1 : Int32)) 16 (1 : Int32)) a (((((a 2) (7 : Int32).toNatClampNeg) + p2) + (0 : Int32)) &&& (255 : Int32)), ua a 2 (upd (a 2) (7 : Int32).toNatClampNeg (((((a 2) (7 : Int32).toNatClampNeg) + p2) + (0 : Int32)) &&& (255 : Int32))))
set_option maxHeartbeats 4000000 in
set_option maxRecDepth 100000 in
theorem kX5_alu (l : Launch) (D : va_G) (cI : ClassId) (o : Nat → Nat) (f : Nat → Int32) (a : Nat → Nat → Int32) (p1 : Int32) (p2 : Int32) : KC l yX5_alu wsX5_alu 1 [.ref (o 20), .int p1, .int p2] D cI (wR cI o f a) (wR cI o ((rAlu f a p1 p2).1) ((rAlu f a p1 p2).2)) none := by
  refine KC.of (cc := cX5_alu) (maxL := 6) (by decide) rfl (Nat.le_of_ble_eq_true rfl) ?_
  intro p e s m below meth c A hx hb hr hts hown hlocks hml hK hP hD hS hA ls hl
  have hl : lv_has ls 6 [(0, .ref (o 20)), (1, .int p1), (2, .int p2)] := hl
  have hown : s.vm.findClass RX5 = some m.cls := hown
  have hi5 : ∀ w ∈ u_ws RX5 TX5 24, w ∈ wsX5_alu := by decide +kernel
  refine lv_aload_n hx hb dX5_alu_0 rfl (lv_at hl 0 rfl) ?_
  refine va_get (ci := 5) (v := .ref (o 23)) (C := RX5) (T := TX5) (N := 24) hx hb hts hi5 hown hK hP 0 rfl rfl 3 (by decide) (hts (.fieldLink RX5 16 "InvaderBoardModel" "reg" "[I") (by decide +kernel)) (fun _ h9 => h9) rfl dX5_alu_1 ?_
  refine lv_bipush (v := 7) hx hb dX5_alu_4 (by decide) ?_
  refine va_iald (f := a 2) hx hb hK hP 3 0 rfl rfl (by unfold vp_in; decide) dX5_alu_6 ?_
  refine lv_istore_n (lv' := [(3, .int _), (0, .ref _), (1, .int _), (2, .int _)]) hx hb dX5_alu_7 rfl hl (by decide) rfl (fun ls hl => ?_)
  refine lv_iload_n hx hb dX5_alu_8 rfl (lv_at hl 2 rfl) ?_
  refine lv_iconst (v := 1) hx hb dX5_alu_9 (by decide) ?_
  refine lv_icmp_eq (tgt := 18) hx hb dX5_alu_10 (by decide) (fun c_1 => ?_) (fun c_1 => ?_)
  · refine lv_aload_n hx hb dX5_alu_18 rfl (lv_at hl 1 rfl) ?_
    refine va_get (ci := 5) (v := .int (f 16)) (C := RX5) (T := TX5) (N := 24) hx hb hts hi5 hown hK hP 0 rfl rfl 10 (by decide) (hts (.fieldLink RX5 66 "InvaderBoardModel" "carry" "I") (by decide +kernel)) (fun _ h9 => h9) rfl dX5_alu_19 ?_
    refine lv_goto (tgt := 26) hx hb dX5_alu_22 (by decide) ?_
    refine lv_istore (lv' := [(4, .int _), (3, .int _), (0, .ref _), (1, .int _), (2, .int _)]) hx hb dX5_alu_26 hl (by decide) rfl (fun ls hl => ?_)
    refine lv_iload_n hx hb dX5_alu_28 rfl (lv_at hl 1 rfl) ?_
    refine lv_istore (lv' := [(5, .int _), (4, .int _), (3, .int _), (0, .ref _), (1, .int _), (2, .int _)]) hx hb dX5_alu_29 hl (by decide) rfl (fun ls hl => ?_)
    refine lv_iload_n hx hb dX5_alu_31 rfl (lv_at hl 4 rfl) ?_
    refine lv_iconst (v := 2) hx hb dX5_alu_32 (by decide) ?_
    refine lv_icmp_ge (tgt := 90) hx hb dX5_alu_33 (by decide) (fun c_2 => ?_) (fun c_2 => ?_)
    · refine lv_iload_n hx hb dX5_alu_90 rfl (lv_at hl 4 rfl) ?_
      refine lv_iconst (v := 2) hx hb dX5_alu_91 (by decide) ?_
      refine lv_icmp_eq (tgt := 106) hx hb dX5_alu_92 (by decide) (fun c_3 => ?_) (fun c_3 => ?_)
      · refine lv_iload_n hx hb dX5_alu_106 rfl (lv_at hl 2 rfl) ?_
        refine lv_iload_n hx hb dX5_alu_107 rfl (lv_at hl 5 rfl) ?_
        refine lv_isub hx hb dX5_alu_108 ?_
        refine lv_iload hx hb dX5_alu_109 (lv_at hl 1 rfl) ?_
        refine lv_isub hx hb dX5_alu_111 ?_
        refine lv_istore (lv' := [(5, .int _), (4, .int _), (3, .int _), (0, .ref _), (1, .int _), (2, .int _)]) hx hb dX5_alu_112 hl (by decide) rfl (fun ls hl => ?_)
        refine lv_aload_n hx hb dX5_alu_114 rfl (lv_at hl 3 rfl) ?_
        refine lv_iload_n hx hb dX5_alu_115 rfl (lv_at hl 2 rfl) ?_
        refine lv_bipush (v := 15) hx hb dX5_alu_116 (by decide) ?_
        refine lv_iand hx hb dX5_alu_118 ?_
        refine lv_iload_n hx hb dX5_alu_119 rfl (lv_at hl 5 rfl) ?_
        refine lv_iconst (v := -1) hx hb dX5_alu_120 (by decide) ?_
        refine lv_ixor hx hb dX5_alu_121 ?_
        refine lv_bipush (v := 15) hx hb dX5_alu_122 (by decide) ?_
        refine lv_iand hx hb dX5_alu_124 ?_
        refine lv_iadd hx hb dX5_alu_125 ?_
        refine lv_iconst (v := 1) hx hb dX5_alu_126 (by decide) ?_
        refine lv_iadd hx hb dX5_alu_127 ?_
        refine lv_iload hx hb dX5_alu_128 (lv_at hl 1 rfl) ?_
        refine lv_isub hx hb dX5_alu_130 ?_
        refine lv_bipush (v := 15) hx hb dX5_alu_131 (by decide) ?_
        refine lv_icmp_le (tgt := 140) hx hb dX5_alu_133 (by decide) (fun c_4 => ?_) (fun c_4 => ?_)
        · refine lv_iconst (v := 0) hx hb dX5_alu_140 (by decide) ?_
          refine pu_R_f14 (v := (0 : Int32)) hx hb hts hi5 hown hK hP hD hS (hts (.fieldLink RX5 63 "InvaderBoardModel" "half" "I") (by decide +kernel)) dX5_alu_141 (fun H locs hP hD hS => ?_)
          refine lv_aload_n hx hb dX5_alu_144 rfl (lv_at hl 3 rfl) ?_
          refine lv_iload hx hb dX5_alu_145 (lv_at hl 0 rfl) ?_
          refine lv_if_ge (tgt := 154) hx hb dX5_alu_147 (by decide) (fun c_5 => ?_) (fun c_5 => ?_)
          · refine lv_iconst (v := 0) hx hb dX5_alu_154 (by decide) ?_
            refine pu_R_f16 (v := (0 : Int32)) hx hb hts hi5 hown hK hP hD hS (hts (.fieldLink RX5 66 "InvaderBoardModel" "carry" "I") (by decide +kernel)) dX5_alu_155 (fun H locs hP hD hS => ?_)
            refine lv_goto (tgt := 213) hx hb dX5_alu_158 (by decide) ?_
            refine lv_aload_n hx hb dX5_alu_213 rfl (lv_at hl 3 rfl) ?_
            refine lv_iload hx hb dX5_alu_214 (lv_at hl 0 rfl) ?_
            refine lv_sipush (v := 255) hx hb dX5_alu_216 (by decide) ?_
            refine lv_iand hx hb dX5_alu_219 ?_
            refine KC.callv (ci := 5) (rest := []) (wt := wR cI o (rSigns (upd (upd f 14 (0 : Int32)) 16 (0 : Int32)) a (((((a 2) (7 : Int32).toNatClampNeg) - p2) - (f 16)) &&& (255 : Int32))) a) (kX5_signs l D cI o (upd (upd f 14 (0 : Int32)) 16 (0 : Int32)) a (((((a 2) (7 : Int32).toNatClampNeg) - p2) - (f 16)) &&& (255 : Int32))) (cwV 1 hts gX5_alu_X5_signs rfl rfl rfl (by decide +kernel) ⟨Nat.le_of_ble_eq_true rfl, Nat.le_of_ble_eq_true rfl⟩) ⟨hx, hb, hml, hown, hts⟩ hK hP hD hS hA rfl rfl rfl [0, 1, 2, 3, 4, 5, 6] [] [0, 1, 2, 3, 4, 5, 6] (by decide) rfl (wr := []) rfl (by decide) (by decide) (by decide) rfl rfl hl.1 rfl (Nat.le_of_ble_eq_true rfl) dX5_alu_220 ⟨Nat.zero_le _, Nat.zero_le _⟩ (fun H locs hP hD hS => ?_)
            refine lv_iload_n hx hb dX5_alu_223 rfl (lv_at hl 4 rfl) ?_
            refine lv_bipush (v := 7) hx hb dX5_alu_224 (by decide) ?_
            refine lv_icmp_ge (tgt := 242) hx hb dX5_alu_226 (by decide) (fun c_6 => ?_) (fun c_6 => ?_)
            · have hF : rAlu f a p1 p2 = (rSigns (upd (upd f 14 (0 : Int32)) 16 (0 : Int32)) a (((((a 2) (7 : Int32).toNatClampNeg) - p2) - (f 16)) &&& (255 : Int32)), a) := by simp only [rAlu, if_pos c_1, if_pos c_2, if_pos c_3, if_pos c_4, if_pos c_5, if_pos c_6]
              rw [hF]
              exact KC.retv hx hb hr hlocks hK hP hD hS dX5_alu_242
            · refine lv_aload_n hx hb dX5_alu_229 rfl (lv_at hl 3 rfl) ?_
              refine va_get (ci := 5) (v := .ref (o 23)) (C := RX5) (T := TX5) (N := 24) hx hb hts hi5 hown hK hP 0 rfl rfl 3 (by decide) (hts (.fieldLink RX5 16 "InvaderBoardModel" "reg" "[I") (by decide +kernel)) (fun _ h9 => h9) rfl dX5_alu_230 ?_
              refine lv_bipush (v := 7) hx hb dX5_alu_233 (by decide) ?_
              refine lv_iload hx hb dX5_alu_235 (lv_at hl 0 rfl) ?_
              refine lv_sipush (v := 255) hx hb dX5_alu_237 (by decide) ?_
              refine lv_iand hx hb dX5_alu_240 ?_
              refine pu_R_a2 hx hb hK hP hD hS (by unfold vp_in; decide) dX5_alu_241 (fun H locs hP hD hS => ?_)
              have hF : rAlu f a p1 p2 = (rSigns (upd (upd f 14 (0 : Int32)) 16 (0 : Int32)) a (((((a 2) (7 : Int32).toNatClampNeg) - p2) - (f 16)) &&& (255 : Int32)), ua a 2 (upd (a 2) (7 : Int32).toNatClampNeg (((((a 2) (7 : Int32).toNatClampNeg) - p2) - (f 16)) &&& (255 : Int32)))) := by simp only [rAlu, if_pos c_1, if_pos c_2, if_pos c_3, if_pos c_4, if_pos c_5, if_neg c_6]
              rw [hF]
              exact KC.retv hx hb hr hlocks hK hP hD hS dX5_alu_242
          · refine lv_iconst (v := 1) hx hb dX5_alu_150 (by decide) ?_
            refine lv_goto (tgt := 155) hx hb dX5_alu_151 (by decide) ?_
            refine pu_R_f16 (v := (1 : Int32)) hx hb hts hi5 hown hK hP hD hS (hts (.fieldLink RX5 66 "InvaderBoardModel" "carry" "I") (by decide +kernel)) dX5_alu_155 (fun H locs hP hD hS => ?_)
            refine lv_goto (tgt := 213) hx hb dX5_alu_158 (by decide) ?_
            refine lv_aload_n hx hb dX5_alu_213 rfl (lv_at hl 3 rfl) ?_
            refine lv_iload hx hb dX5_alu_214 (lv_at hl 0 rfl) ?_
            refine lv_sipush (v := 255) hx hb dX5_alu_216 (by decide) ?_
            refine lv_iand hx hb dX5_alu_219 ?_
            refine KC.callv (ci := 5) (rest := []) (wt := wR cI o (rSigns (upd (upd f 14 (0 : Int32)) 16 (1 : Int32)) a (((((a 2) (7 : Int32).toNatClampNeg) - p2) - (f 16)) &&& (255 : Int32))) a) (kX5_signs l D cI o (upd (upd f 14 (0 : Int32)) 16 (1 : Int32)) a (((((a 2) (7 : Int32).toNatClampNeg) - p2) - (f 16)) &&& (255 : Int32))) (cwV 1 hts gX5_alu_X5_signs rfl rfl rfl (by decide +kernel) ⟨Nat.le_of_ble_eq_true rfl, Nat.le_of_ble_eq_true rfl⟩) ⟨hx, hb, hml, hown, hts⟩ hK hP hD hS hA rfl rfl rfl [0, 1, 2, 3, 4, 5, 6] [] [0, 1, 2, 3, 4, 5, 6] (by decide) rfl (wr := []) rfl (by decide) (by decide) (by decide) rfl rfl hl.1 rfl (Nat.le_of_ble_eq_true rfl) dX5_alu_220 ⟨Nat.zero_le _, Nat.zero_le _⟩ (fun H locs hP hD hS => ?_)
            refine lv_iload_n hx hb dX5_alu_223 rfl (lv_at hl 4 rfl) ?_
            refine lv_bipush (v := 7) hx hb dX5_alu_224 (by decide) ?_
            refine lv_icmp_ge (tgt := 242) hx hb dX5_alu_226 (by decide) (fun c_7 => ?_) (fun c_7 => ?_)
            · have hF : rAlu f a p1 p2 = (rSigns (upd (upd f 14 (0 : Int32)) 16 (1 : Int32)) a (((((a 2) (7 : Int32).toNatClampNeg) - p2) - (f 16)) &&& (255 : Int32)), a) := by simp only [rAlu, if_pos c_1, if_pos c_2, if_pos c_3, if_pos c_4, if_neg c_5, if_pos c_7]
              rw [hF]
              exact KC.retv hx hb hr hlocks hK hP hD hS dX5_alu_242
            · refine lv_aload_n hx hb dX5_alu_229 rfl (lv_at hl 3 rfl) ?_
              refine va_get (ci := 5) (v := .ref (o 23)) (C := RX5) (T := TX5) (N := 24) hx hb hts hi5 hown hK hP 0 rfl rfl 3 (by decide) (hts (.fieldLink RX5 16 "InvaderBoardModel" "reg" "[I") (by decide +kernel)) (fun _ h9 => h9) rfl dX5_alu_230 ?_
              refine lv_bipush (v := 7) hx hb dX5_alu_233 (by decide) ?_
              refine lv_iload hx hb dX5_alu_235 (lv_at hl 0 rfl) ?_
              refine lv_sipush (v := 255) hx hb dX5_alu_237 (by decide) ?_
              refine lv_iand hx hb dX5_alu_240 ?_
              refine pu_R_a2 hx hb hK hP hD hS (by unfold vp_in; decide) dX5_alu_241 (fun H locs hP hD hS => ?_)
              have hF : rAlu f a p1 p2 = (rSigns (upd (upd f 14 (0 : Int32)) 16 (1 : Int32)) a (((((a 2) (7 : Int32).toNatClampNeg) - p2) - (f 16)) &&& (255 : Int32)), ua a 2 (upd (a 2) (7 : Int32).toNatClampNeg (((((a 2) (7 : Int32).toNatClampNeg) - p2) - (f 16)) &&& (255 : Int32)))) := by simp only [rAlu, if_pos c_1, if_pos c_2, if_pos c_3, if_pos c_4, if_neg c_5, if_neg c_7]
              rw [hF]
              exact KC.retv hx hb hr hlocks hK hP hD hS dX5_alu_242
        · refine lv_iconst (v := 1) hx hb dX5_alu_136 (by decide) ?_
          refine lv_goto (tgt := 141) hx hb dX5_alu_137 (by decide) ?_
          refine pu_R_f14 (v := (1 : Int32)) hx hb hts hi5 hown hK hP hD hS (hts (.fieldLink RX5 63 "InvaderBoardModel" "half" "I") (by decide +kernel)) dX5_alu_141 (fun H locs hP hD hS => ?_)
          refine lv_aload_n hx hb dX5_alu_144 rfl (lv_at hl 3 rfl) ?_
          refine lv_iload hx hb dX5_alu_145 (lv_at hl 0 rfl) ?_
          refine lv_if_ge (tgt := 154) hx hb dX5_alu_147 (by decide) (fun c_8 => ?_) (fun c_8 => ?_)
          · refine lv_iconst (v := 0) hx hb dX5_alu_154 (by decide) ?_
            refine pu_R_f16 (v := (0 : Int32)) hx hb hts hi5 hown hK hP hD hS (hts (.fieldLink RX5 66 "InvaderBoardModel" "carry" "I") (by decide +kernel)) dX5_alu_155 (fun H locs hP hD hS => ?_)
            refine lv_goto (tgt := 213) hx hb dX5_alu_158 (by decide) ?_
            refine lv_aload_n hx hb dX5_alu_213 rfl (lv_at hl 3 rfl) ?_
            refine lv_iload hx hb dX5_alu_214 (lv_at hl 0 rfl) ?_
            refine lv_sipush (v := 255) hx hb dX5_alu_216 (by decide) ?_
            refine lv_iand hx hb dX5_alu_219 ?_
            refine KC.callv (ci := 5) (rest := []) (wt := wR cI o (rSigns (upd (upd f 14 (1 : Int32)) 16 (0 : Int32)) a (((((a 2) (7 : Int32).toNatClampNeg) - p2) - (f 16)) &&& (255 : Int32))) a) (kX5_signs l D cI o (upd (upd f 14 (1 : Int32)) 16 (0 : Int32)) a (((((a 2) (7 : Int32).toNatClampNeg) - p2) - (f 16)) &&& (255 : Int32))) (cwV 1 hts gX5_alu_X5_signs rfl rfl rfl (by decide +kernel) ⟨Nat.le_of_ble_eq_true rfl, Nat.le_of_ble_eq_true rfl⟩) ⟨hx, hb, hml, hown, hts⟩ hK hP hD hS hA rfl rfl rfl [0, 1, 2, 3, 4, 5, 6] [] [0, 1, 2, 3, 4, 5, 6] (by decide) rfl (wr := []) rfl (by decide) (by decide) (by decide) rfl rfl hl.1 rfl (Nat.le_of_ble_eq_true rfl) dX5_alu_220 ⟨Nat.zero_le _, Nat.zero_le _⟩ (fun H locs hP hD hS => ?_)
            refine lv_iload_n hx hb dX5_alu_223 rfl (lv_at hl 4 rfl) ?_
            refine lv_bipush (v := 7) hx hb dX5_alu_224 (by decide) ?_
            refine lv_icmp_ge (tgt := 242) hx hb dX5_alu_226 (by decide) (fun c_9 => ?_) (fun c_9 => ?_)
            · have hF : rAlu f a p1 p2 = (rSigns (upd (upd f 14 (1 : Int32)) 16 (0 : Int32)) a (((((a 2) (7 : Int32).toNatClampNeg) - p2) - (f 16)) &&& (255 : Int32)), a) := by simp only [rAlu, if_pos c_1, if_pos c_2, if_pos c_3, if_neg c_4, if_pos c_8, if_pos c_9]
              rw [hF]
              exact KC.retv hx hb hr hlocks hK hP hD hS dX5_alu_242
            · refine lv_aload_n hx hb dX5_alu_229 rfl (lv_at hl 3 rfl) ?_
              refine va_get (ci := 5) (v := .ref (o 23)) (C := RX5) (T := TX5) (N := 24) hx hb hts hi5 hown hK hP 0 rfl rfl 3 (by decide) (hts (.fieldLink RX5 16 "InvaderBoardModel" "reg" "[I") (by decide +kernel)) (fun _ h9 => h9) rfl dX5_alu_230 ?_
              refine lv_bipush (v := 7) hx hb dX5_alu_233 (by decide) ?_
              refine lv_iload hx hb dX5_alu_235 (lv_at hl 0 rfl) ?_
              refine lv_sipush (v := 255) hx hb dX5_alu_237 (by decide) ?_
              refine lv_iand hx hb dX5_alu_240 ?_
              refine pu_R_a2 hx hb hK hP hD hS (by unfold vp_in; decide) dX5_alu_241 (fun H locs hP hD hS => ?_)
              have hF : rAlu f a p1 p2 = (rSigns (upd (upd f 14 (1 : Int32)) 16 (0 : Int32)) a (((((a 2) (7 : Int32).toNatClampNeg) - p2) - (f 16)) &&& (255 : Int32)), ua a 2 (upd (a 2) (7 : Int32).toNatClampNeg (((((a 2) (7 : Int32).toNatClampNeg) - p2) - (f 16)) &&& (255 : Int32)))) := by simp only [rAlu, if_pos c_1, if_pos c_2, if_pos c_3, if_neg c_4, if_pos c_8, if_neg c_9]
              rw [hF]
              exact KC.retv hx hb hr hlocks hK hP hD hS dX5_alu_242
          · refine lv_iconst (v := 1) hx hb dX5_alu_150 (by decide) ?_
            refine lv_goto (tgt := 155) hx hb dX5_alu_151 (by decide) ?_
            refine pu_R_f16 (v := (1 : Int32)) hx hb hts hi5 hown hK hP hD hS (hts (.fieldLink RX5 66 "InvaderBoardModel" "carry" "I") (by decide +kernel)) dX5_alu_155 (fun H locs hP hD hS => ?_)
            refine lv_goto (tgt := 213) hx hb dX5_alu_158 (by decide) ?_
            refine lv_aload_n hx hb dX5_alu_213 rfl (lv_at hl 3 rfl) ?_
            refine lv_iload hx hb dX5_alu_214 (lv_at hl 0 rfl) ?_
            refine lv_sipush (v := 255) hx hb dX5_alu_216 (by decide) ?_
            refine lv_iand hx hb dX5_alu_219 ?_
            refine KC.callv (ci := 5) (rest := []) (wt := wR cI o (rSigns (upd (upd f 14 (1 : Int32)) 16 (1 : Int32)) a (((((a 2) (7 : Int32).toNatClampNeg) - p2) - (f 16)) &&& (255 : Int32))) a) (kX5_signs l D cI o (upd (upd f 14 (1 : Int32)) 16 (1 : Int32)) a (((((a 2) (7 : Int32).toNatClampNeg) - p2) - (f 16)) &&& (255 : Int32))) (cwV 1 hts gX5_alu_X5_signs rfl rfl rfl (by decide +kernel) ⟨Nat.le_of_ble_eq_true rfl, Nat.le_of_ble_eq_true rfl⟩) ⟨hx, hb, hml, hown, hts⟩ hK hP hD hS hA rfl rfl rfl [0, 1, 2, 3, 4, 5, 6] [] [0, 1, 2, 3, 4, 5, 6] (by decide) rfl (wr := []) rfl (by decide) (by decide) (by decide) rfl rfl hl.1 rfl (Nat.le_of_ble_eq_true rfl) dX5_alu_220 ⟨Nat.zero_le _, Nat.zero_le _⟩ (fun H locs hP hD hS => ?_)
            refine lv_iload_n hx hb dX5_alu_223 rfl (lv_at hl 4 rfl) ?_
            refine lv_bipush (v := 7) hx hb dX5_alu_224 (by decide) ?_
            refine lv_icmp_ge (tgt := 242) hx hb dX5_alu_226 (by decide) (fun c_10 => ?_) (fun c_10 => ?_)
            · have hF : rAlu f a p1 p2 = (rSigns (upd (upd f 14 (1 : Int32)) 16 (1 : Int32)) a (((((a 2) (7 : Int32).toNatClampNeg) - p2) - (f 16)) &&& (255 : Int32)), a) := by simp only [rAlu, if_pos c_1, if_pos c_2, if_pos c_3, if_neg c_4, if_neg c_8, if_pos c_10]
              rw [hF]
              exact KC.retv hx hb hr hlocks hK hP hD hS dX5_alu_242
            · refine lv_aload_n hx hb dX5_alu_229 rfl (lv_at hl 3 rfl) ?_
              refine va_get (ci := 5) (v := .ref (o 23)) (C := RX5) (T := TX5) (N := 24) hx hb hts hi5 hown hK hP 0 rfl rfl 3 (by decide) (hts (.fieldLink RX5 16 "InvaderBoardModel" "reg" "[I") (by decide +kernel)) (fun _ h9 => h9) rfl dX5_alu_230 ?_
              refine lv_bipush (v := 7) hx hb dX5_alu_233 (by decide) ?_
              refine lv_iload hx hb dX5_alu_235 (lv_at hl 0 rfl) ?_
              refine lv_sipush (v := 255) hx hb dX5_alu_237 (by decide) ?_
              refine lv_iand hx hb dX5_alu_240 ?_
              refine pu_R_a2 hx hb hK hP hD hS (by unfold vp_in; decide) dX5_alu_241 (fun H locs hP hD hS => ?_)
              have hF : rAlu f a p1 p2 = (rSigns (upd (upd f 14 (1 : Int32)) 16 (1 : Int32)) a (((((a 2) (7 : Int32).toNatClampNeg) - p2) - (f 16)) &&& (255 : Int32)), ua a 2 (upd (a 2) (7 : Int32).toNatClampNeg (((((a 2) (7 : Int32).toNatClampNeg) - p2) - (f 16)) &&& (255 : Int32)))) := by simp only [rAlu, if_pos c_1, if_pos c_2, if_pos c_3, if_neg c_4, if_neg c_8, if_neg c_10]
              rw [hF]
              exact KC.retv hx hb hr hlocks hK hP hD hS dX5_alu_242
      · refine lv_iload_n hx hb dX5_alu_95 rfl (lv_at hl 4 rfl) ?_
        refine lv_iconst (v := 3) hx hb dX5_alu_96 (by decide) ?_
        refine lv_icmp_eq (tgt := 106) hx hb dX5_alu_97 (by decide) (fun c_11 => ?_) (fun c_11 => ?_)
        · refine lv_iload_n hx hb dX5_alu_106 rfl (lv_at hl 2 rfl) ?_
          refine lv_iload_n hx hb dX5_alu_107 rfl (lv_at hl 5 rfl) ?_
          refine lv_isub hx hb dX5_alu_108 ?_
          refine lv_iload hx hb dX5_alu_109 (lv_at hl 1 rfl) ?_
          refine lv_isub hx hb dX5_alu_111 ?_
          refine lv_istore (lv' := [(5, .int _), (4, .int _), (3, .int _), (0, .ref _), (1, .int _), (2, .int _)]) hx hb dX5_alu_112 hl (by decide) rfl (fun ls hl => ?_)
          refine lv_aload_n hx hb dX5_alu_114 rfl (lv_at hl 3 rfl) ?_
          refine lv_iload_n hx hb dX5_alu_115 rfl (lv_at hl 2 rfl) ?_
          refine lv_bipush (v := 15) hx hb dX5_alu_116 (by decide) ?_
          refine lv_iand hx hb dX5_alu_118 ?_
          refine lv_iload_n hx hb dX5_alu_119 rfl (lv_at hl 5 rfl) ?_
          refine lv_iconst (v := -1) hx hb dX5_alu_120 (by decide) ?_
          refine lv_ixor hx hb dX5_alu_121 ?_
          refine lv_bipush (v := 15) hx hb dX5_alu_122 (by decide) ?_
          refine lv_iand hx hb dX5_alu_124 ?_
          refine lv_iadd hx hb dX5_alu_125 ?_
          refine lv_iconst (v := 1) hx hb dX5_alu_126 (by decide) ?_
          refine lv_iadd hx hb dX5_alu_127 ?_
          refine lv_iload hx hb dX5_alu_128 (lv_at hl 1 rfl) ?_
          refine lv_isub hx hb dX5_alu_130 ?_
          refine lv_bipush (v := 15) hx hb dX5_alu_131 (by decide) ?_
          refine lv_icmp_le (tgt := 140) hx hb dX5_alu_133 (by decide) (fun c_12 => ?_) (fun c_12 => ?_)
          · refine lv_iconst (v := 0) hx hb dX5_alu_140 (by decide) ?_
            refine pu_R_f14 (v := (0 : Int32)) hx hb hts hi5 hown hK hP hD hS (hts (.fieldLink RX5 63 "InvaderBoardModel" "half" "I") (by decide +kernel)) dX5_alu_141 (fun H locs hP hD hS => ?_)
            refine lv_aload_n hx hb dX5_alu_144 rfl (lv_at hl 3 rfl) ?_
            refine lv_iload hx hb dX5_alu_145 (lv_at hl 0 rfl) ?_
            refine lv_if_ge (tgt := 154) hx hb dX5_alu_147 (by decide) (fun c_13 => ?_) (fun c_13 => ?_)
            · refine lv_iconst (v := 0) hx hb dX5_alu_154 (by decide) ?_
              refine pu_R_f16 (v := (0 : Int32)) hx hb hts hi5 hown hK hP hD hS (hts (.fieldLink RX5 66 "InvaderBoardModel" "carry" "I") (by decide +kernel)) dX5_alu_155 (fun H locs hP hD hS => ?_)
              refine lv_goto (tgt := 213) hx hb dX5_alu_158 (by decide) ?_
              refine lv_aload_n hx hb dX5_alu_213 rfl (lv_at hl 3 rfl) ?_
              refine lv_iload hx hb dX5_alu_214 (lv_at hl 0 rfl) ?_
              refine lv_sipush (v := 255) hx hb dX5_alu_216 (by decide) ?_
              refine lv_iand hx hb dX5_alu_219 ?_
              refine KC.callv (ci := 5) (rest := []) (wt := wR cI o (rSigns (upd (upd f 14 (0 : Int32)) 16 (0 : Int32)) a (((((a 2) (7 : Int32).toNatClampNeg) - p2) - (f 16)) &&& (255 : Int32))) a) (kX5_signs l D cI o (upd (upd f 14 (0 : Int32)) 16 (0 : Int32)) a (((((a 2) (7 : Int32).toNatClampNeg) - p2) - (f 16)) &&& (255 : Int32))) (cwV 1 hts gX5_alu_X5_signs rfl rfl rfl (by decide +kernel) ⟨Nat.le_of_ble_eq_true rfl, Nat.le_of_ble_eq_true rfl⟩) ⟨hx, hb, hml, hown, hts⟩ hK hP hD hS hA rfl rfl rfl [0, 1, 2, 3, 4, 5, 6] [] [0, 1, 2, 3, 4, 5, 6] (by decide) rfl (wr := []) rfl (by decide) (by decide) (by decide) rfl rfl hl.1 rfl (Nat.le_of_ble_eq_true rfl) dX5_alu_220 ⟨Nat.zero_le _, Nat.zero_le _⟩ (fun H locs hP hD hS => ?_)
              refine lv_iload_n hx hb dX5_alu_223 rfl (lv_at hl 4 rfl) ?_
              refine lv_bipush (v := 7) hx hb dX5_alu_224 (by decide) ?_
              refine lv_icmp_ge (tgt := 242) hx hb dX5_alu_226 (by decide) (fun c_14 => ?_) (fun c_14 => ?_)
              · have hF : rAlu f a p1 p2 = (rSigns (upd (upd f 14 (0 : Int32)) 16 (0 : Int32)) a (((((a 2) (7 : Int32).toNatClampNeg) - p2) - (f 16)) &&& (255 : Int32)), a) := by simp only [rAlu, if_pos c_1, if_pos c_2, if_neg c_3, if_pos c_11, if_pos c_12, if_pos c_13, if_pos c_14]
                rw [hF]
                exact KC.retv hx hb hr hlocks hK hP hD hS dX5_alu_242
              · refine lv_aload_n hx hb dX5_alu_229 rfl (lv_at hl 3 rfl) ?_
                refine va_get (ci := 5) (v := .ref (o 23)) (C := RX5) (T := TX5) (N := 24) hx hb hts hi5 hown hK hP 0 rfl rfl 3 (by decide) (hts (.fieldLink RX5 16 "InvaderBoardModel" "reg" "[I") (by decide +kernel)) (fun _ h9 => h9) rfl dX5_alu_230 ?_
                refine lv_bipush (v := 7) hx hb dX5_alu_233 (by decide) ?_
                refine lv_iload hx hb dX5_alu_235 (lv_at hl 0 rfl) ?_
                refine lv_sipush (v := 255) hx hb dX5_alu_237 (by decide) ?_
                refine lv_iand hx hb dX5_alu_240 ?_
                refine pu_R_a2 hx hb hK hP hD hS (by unfold vp_in; decide) dX5_alu_241 (fun H locs hP hD hS => ?_)
                have hF : rAlu f a p1 p2 = (rSigns (upd (upd f 14 (0 : Int32)) 16 (0 : Int32)) a (((((a 2) (7 : Int32).toNatClampNeg) - p2) - (f 16)) &&& (255 : Int32)), ua a 2 (upd (a 2) (7 : Int32).toNatClampNeg (((((a 2) (7 : Int32).toNatClampNeg) - p2) - (f 16)) &&& (255 : Int32)))) := by simp only [rAlu, if_pos c_1, if_pos c_2, if_neg c_3, if_pos c_11, if_pos c_12, if_pos c_13, if_neg c_14]
                rw [hF]
                exact KC.retv hx hb hr hlocks hK hP hD hS dX5_alu_242
            · refine lv_iconst (v := 1) hx hb dX5_alu_150 (by decide) ?_
              refine lv_goto (tgt := 155) hx hb dX5_alu_151 (by decide) ?_
              refine pu_R_f16 (v := (1 : Int32)) hx hb hts hi5 hown hK hP hD hS (hts (.fieldLink RX5 66 "InvaderBoardModel" "carry" "I") (by decide +kernel)) dX5_alu_155 (fun H locs hP hD hS => ?_)
              refine lv_goto (tgt := 213) hx hb dX5_alu_158 (by decide) ?_
              refine lv_aload_n hx hb dX5_alu_213 rfl (lv_at hl 3 rfl) ?_
              refine lv_iload hx hb dX5_alu_214 (lv_at hl 0 rfl) ?_
              refine lv_sipush (v := 255) hx hb dX5_alu_216 (by decide) ?_
              refine lv_iand hx hb dX5_alu_219 ?_
              refine KC.callv (ci := 5) (rest := []) (wt := wR cI o (rSigns (upd (upd f 14 (0 : Int32)) 16 (1 : Int32)) a (((((a 2) (7 : Int32).toNatClampNeg) - p2) - (f 16)) &&& (255 : Int32))) a) (kX5_signs l D cI o (upd (upd f 14 (0 : Int32)) 16 (1 : Int32)) a (((((a 2) (7 : Int32).toNatClampNeg) - p2) - (f 16)) &&& (255 : Int32))) (cwV 1 hts gX5_alu_X5_signs rfl rfl rfl (by decide +kernel) ⟨Nat.le_of_ble_eq_true rfl, Nat.le_of_ble_eq_true rfl⟩) ⟨hx, hb, hml, hown, hts⟩ hK hP hD hS hA rfl rfl rfl [0, 1, 2, 3, 4, 5, 6] [] [0, 1, 2, 3, 4, 5, 6] (by decide) rfl (wr := []) rfl (by decide) (by decide) (by decide) rfl rfl hl.1 rfl (Nat.le_of_ble_eq_true rfl) dX5_alu_220 ⟨Nat.zero_le _, Nat.zero_le _⟩ (fun H locs hP hD hS => ?_)
              refine lv_iload_n hx hb dX5_alu_223 rfl (lv_at hl 4 rfl) ?_
              refine lv_bipush (v := 7) hx hb dX5_alu_224 (by decide) ?_
              refine lv_icmp_ge (tgt := 242) hx hb dX5_alu_226 (by decide) (fun c_15 => ?_) (fun c_15 => ?_)
              · have hF : rAlu f a p1 p2 = (rSigns (upd (upd f 14 (0 : Int32)) 16 (1 : Int32)) a (((((a 2) (7 : Int32).toNatClampNeg) - p2) - (f 16)) &&& (255 : Int32)), a) := by simp only [rAlu, if_pos c_1, if_pos c_2, if_neg c_3, if_pos c_11, if_pos c_12, if_neg c_13, if_pos c_15]
                rw [hF]
                exact KC.retv hx hb hr hlocks hK hP hD hS dX5_alu_242
              · refine lv_aload_n hx hb dX5_alu_229 rfl (lv_at hl 3 rfl) ?_
                refine va_get (ci := 5) (v := .ref (o 23)) (C := RX5) (T := TX5) (N := 24) hx hb hts hi5 hown hK hP 0 rfl rfl 3 (by decide) (hts (.fieldLink RX5 16 "InvaderBoardModel" "reg" "[I") (by decide +kernel)) (fun _ h9 => h9) rfl dX5_alu_230 ?_
                refine lv_bipush (v := 7) hx hb dX5_alu_233 (by decide) ?_
                refine lv_iload hx hb dX5_alu_235 (lv_at hl 0 rfl) ?_
                refine lv_sipush (v := 255) hx hb dX5_alu_237 (by decide) ?_
                refine lv_iand hx hb dX5_alu_240 ?_
                refine pu_R_a2 hx hb hK hP hD hS (by unfold vp_in; decide) dX5_alu_241 (fun H locs hP hD hS => ?_)
                have hF : rAlu f a p1 p2 = (rSigns (upd (upd f 14 (0 : Int32)) 16 (1 : Int32)) a (((((a 2) (7 : Int32).toNatClampNeg) - p2) - (f 16)) &&& (255 : Int32)), ua a 2 (upd (a 2) (7 : Int32).toNatClampNeg (((((a 2) (7 : Int32).toNatClampNeg) - p2) - (f 16)) &&& (255 : Int32)))) := by simp only [rAlu, if_pos c_1, if_pos c_2, if_neg c_3, if_pos c_11, if_pos c_12, if_neg c_13, if_neg c_15]
                rw [hF]
                exact KC.retv hx hb hr hlocks hK hP hD hS dX5_alu_242
          · refine lv_iconst (v := 1) hx hb dX5_alu_136 (by decide) ?_
            refine lv_goto (tgt := 141) hx hb dX5_alu_137 (by decide) ?_
            refine pu_R_f14 (v := (1 : Int32)) hx hb hts hi5 hown hK hP hD hS (hts (.fieldLink RX5 63 "InvaderBoardModel" "half" "I") (by decide +kernel)) dX5_alu_141 (fun H locs hP hD hS => ?_)
            refine lv_aload_n hx hb dX5_alu_144 rfl (lv_at hl 3 rfl) ?_
            refine lv_iload hx hb dX5_alu_145 (lv_at hl 0 rfl) ?_
            refine lv_if_ge (tgt := 154) hx hb dX5_alu_147 (by decide) (fun c_16 => ?_) (fun c_16 => ?_)
            · refine lv_iconst (v := 0) hx hb dX5_alu_154 (by decide) ?_
              refine pu_R_f16 (v := (0 : Int32)) hx hb hts hi5 hown hK hP hD hS (hts (.fieldLink RX5 66 "InvaderBoardModel" "carry" "I") (by decide +kernel)) dX5_alu_155 (fun H locs hP hD hS => ?_)
              refine lv_goto (tgt := 213) hx hb dX5_alu_158 (by decide) ?_
              refine lv_aload_n hx hb dX5_alu_213 rfl (lv_at hl 3 rfl) ?_
              refine lv_iload hx hb dX5_alu_214 (lv_at hl 0 rfl) ?_
              refine lv_sipush (v := 255) hx hb dX5_alu_216 (by decide) ?_
              refine lv_iand hx hb dX5_alu_219 ?_
              refine KC.callv (ci := 5) (rest := []) (wt := wR cI o (rSigns (upd (upd f 14 (1 : Int32)) 16 (0 : Int32)) a (((((a 2) (7 : Int32).toNatClampNeg) - p2) - (f 16)) &&& (255 : Int32))) a) (kX5_signs l D cI o (upd (upd f 14 (1 : Int32)) 16 (0 : Int32)) a (((((a 2) (7 : Int32).toNatClampNeg) - p2) - (f 16)) &&& (255 : Int32))) (cwV 1 hts gX5_alu_X5_signs rfl rfl rfl (by decide +kernel) ⟨Nat.le_of_ble_eq_true rfl, Nat.le_of_ble_eq_true rfl⟩) ⟨hx, hb, hml, hown, hts⟩ hK hP hD hS hA rfl rfl rfl [0, 1, 2, 3, 4, 5, 6] [] [0, 1, 2, 3, 4, 5, 6] (by decide) rfl (wr := []) rfl (by decide) (by decide) (by decide) rfl rfl hl.1 rfl (Nat.le_of_ble_eq_true rfl) dX5_alu_220 ⟨Nat.zero_le _, Nat.zero_le _⟩ (fun H locs hP hD hS => ?_)
              refine lv_iload_n hx hb dX5_alu_223 rfl (lv_at hl 4 rfl) ?_
              refine lv_bipush (v := 7) hx hb dX5_alu_224 (by decide) ?_
              refine lv_icmp_ge (tgt := 242) hx hb dX5_alu_226 (by decide) (fun c_17 => ?_) (fun c_17 => ?_)
              · have hF : rAlu f a p1 p2 = (rSigns (upd (upd f 14 (1 : Int32)) 16 (0 : Int32)) a (((((a 2) (7 : Int32).toNatClampNeg) - p2) - (f 16)) &&& (255 : Int32)), a) := by simp only [rAlu, if_pos c_1, if_pos c_2, if_neg c_3, if_pos c_11, if_neg c_12, if_pos c_16, if_pos c_17]
                rw [hF]
                exact KC.retv hx hb hr hlocks hK hP hD hS dX5_alu_242
              · refine lv_aload_n hx hb dX5_alu_229 rfl (lv_at hl 3 rfl) ?_
                refine va_get (ci := 5) (v := .ref (o 23)) (C := RX5) (T := TX5) (N := 24) hx hb hts hi5 hown hK hP 0 rfl rfl 3 (by decide) (hts (.fieldLink RX5 16 "InvaderBoardModel" "reg" "[I") (by decide +kernel)) (fun _ h9 => h9) rfl dX5_alu_230 ?_
                refine lv_bipush (v := 7) hx hb dX5_alu_233 (by decide) ?_
                refine lv_iload hx hb dX5_alu_235 (lv_at hl 0 rfl) ?_
                refine lv_sipush (v := 255) hx hb dX5_alu_237 (by decide) ?_
                refine lv_iand hx hb dX5_alu_240 ?_
                refine pu_R_a2 hx hb hK hP hD hS (by unfold vp_in; decide) dX5_alu_241 (fun H locs hP hD hS => ?_)
                have hF : rAlu f a p1 p2 = (rSigns (upd (upd f 14 (1 : Int32)) 16 (0 : Int32)) a (((((a 2) (7 : Int32).toNatClampNeg) - p2) - (f 16)) &&& (255 : Int32)), ua a 2 (upd (a 2) (7 : Int32).toNatClampNeg (((((a 2) (7 : Int32).toNatClampNeg) - p2) - (f 16)) &&& (255 : Int32)))) := by simp only [rAlu, if_pos c_1, if_pos c_2, if_neg c_3, if_pos c_11, if_neg c_12, if_pos c_16, if_neg c_17]
                rw [hF]
                exact KC.retv hx hb hr hlocks hK hP hD hS dX5_alu_242
            · refine lv_iconst (v := 1) hx hb dX5_alu_150 (by decide) ?_
              refine lv_goto (tgt := 155) hx hb dX5_alu_151 (by decide) ?_
              refine pu_R_f16 (v := (1 : Int32)) hx hb hts hi5 hown hK hP hD hS (hts (.fieldLink RX5 66 "InvaderBoardModel" "carry" "I") (by decide +kernel)) dX5_alu_155 (fun H locs hP hD hS => ?_)
              refine lv_goto (tgt := 213) hx hb dX5_alu_158 (by decide) ?_
              refine lv_aload_n hx hb dX5_alu_213 rfl (lv_at hl 3 rfl) ?_
              refine lv_iload hx hb dX5_alu_214 (lv_at hl 0 rfl) ?_
              refine lv_sipush (v := 255) hx hb dX5_alu_216 (by decide) ?_
              refine lv_iand hx hb dX5_alu_219 ?_
              refine KC.callv (ci := 5) (rest := []) (wt := wR cI o (rSigns (upd (upd f 14 (1 : Int32)) 16 (1 : Int32)) a (((((a 2) (7 : Int32).toNatClampNeg) - p2) - (f 16)) &&& (255 : Int32))) a) (kX5_signs l D cI o (upd (upd f 14 (1 : Int32)) 16 (1 : Int32)) a (((((a 2) (7 : Int32).toNatClampNeg) - p2) - (f 16)) &&& (255 : Int32))) (cwV 1 hts gX5_alu_X5_signs rfl rfl rfl (by decide +kernel) ⟨Nat.le_of_ble_eq_true rfl, Nat.le_of_ble_eq_true rfl⟩) ⟨hx, hb, hml, hown, hts⟩ hK hP hD hS hA rfl rfl rfl [0, 1, 2, 3, 4, 5, 6] [] [0, 1, 2, 3, 4, 5, 6] (by decide) rfl (wr := []) rfl (by decide) (by decide) (by decide) rfl rfl hl.1 rfl (Nat.le_of_ble_eq_true rfl) dX5_alu_220 ⟨Nat.zero_le _, Nat.zero_le _⟩ (fun H locs hP hD hS => ?_)
              refine lv_iload_n hx hb dX5_alu_223 rfl (lv_at hl 4 rfl) ?_
              refine lv_bipush (v := 7) hx hb dX5_alu_224 (by decide) ?_
              refine lv_icmp_ge (tgt := 242) hx hb dX5_alu_226 (by decide) (fun c_18 => ?_) (fun c_18 => ?_)
              · have hF : rAlu f a p1 p2 = (rSigns (upd (upd f 14 (1 : Int32)) 16 (1 : Int32)) a (((((a 2) (7 : Int32).toNatClampNeg) - p2) - (f 16)) &&& (255 : Int32)), a) := by simp only [rAlu, if_pos c_1, if_pos c_2, if_neg c_3, if_pos c_11, if_neg c_12, if_neg c_16, if_pos c_18]
                rw [hF]
                exact KC.retv hx hb hr hlocks hK hP hD hS dX5_alu_242
              · refine lv_aload_n hx hb dX5_alu_229 rfl (lv_at hl 3 rfl) ?_
                refine va_get (ci := 5) (v := .ref (o 23)) (C := RX5) (T := TX5) (N := 24) hx hb hts hi5 hown hK hP 0 rfl rfl 3 (by decide) (hts (.fieldLink RX5 16 "InvaderBoardModel" "reg" "[I") (by decide +kernel)) (fun _ h9 => h9) rfl dX5_alu_230 ?_
                refine lv_bipush (v := 7) hx hb dX5_alu_233 (by decide) ?_
                refine lv_iload hx hb dX5_alu_235 (lv_at hl 0 rfl) ?_
                refine lv_sipush (v := 255) hx hb dX5_alu_237 (by decide) ?_
                refine lv_iand hx hb dX5_alu_240 ?_
                refine pu_R_a2 hx hb hK hP hD hS (by unfold vp_in; decide) dX5_alu_241 (fun H locs hP hD hS => ?_)
                have hF : rAlu f a p1 p2 = (rSigns (upd (upd f 14 (1 : Int32)) 16 (1 : Int32)) a (((((a 2) (7 : Int32).toNatClampNeg) - p2) - (f 16)) &&& (255 : Int32)), ua a 2 (upd (a 2) (7 : Int32).toNatClampNeg (((((a 2) (7 : Int32).toNatClampNeg) - p2) - (f 16)) &&& (255 : Int32)))) := by simp only [rAlu, if_pos c_1, if_pos c_2, if_neg c_3, if_pos c_11, if_neg c_12, if_neg c_16, if_neg c_18]
                rw [hF]
                exact KC.retv hx hb hr hlocks hK hP hD hS dX5_alu_242
        · refine lv_iload_n hx hb dX5_alu_100 rfl (lv_at hl 4 rfl) ?_
          refine lv_bipush (v := 7) hx hb dX5_alu_101 (by decide) ?_
          refine lv_icmp_ne (tgt := 161) hx hb dX5_alu_103 (by decide) (fun c_19 => ?_) (fun c_19 => ?_)
          · refine lv_iload_n hx hb dX5_alu_161 rfl (lv_at hl 4 rfl) ?_
            refine lv_iconst (v := 4) hx hb dX5_alu_162 (by decide) ?_
            refine lv_icmp_ne (tgt := 172) hx hb dX5_alu_163 (by decide) (fun c_20 => ?_) (fun c_20 => ?_)
            · refine lv_iload_n hx hb dX5_alu_172 rfl (lv_at hl 4 rfl) ?_
              refine lv_iconst (v := 5) hx hb dX5_alu_173 (by decide) ?_
              refine lv_icmp_ne (tgt := 183) hx hb dX5_alu_174 (by decide) (fun c_21 => ?_) (fun c_21 => ?_)
              · refine lv_iload_n hx hb dX5_alu_183 rfl (lv_at hl 2 rfl) ?_
                refine lv_iload_n hx hb dX5_alu_184 rfl (lv_at hl 5 rfl) ?_
                refine lv_ior hx hb dX5_alu_185 ?_
                refine lv_istore (lv' := [(5, .int _), (4, .int _), (3, .int _), (0, .ref _), (1, .int _), (2, .int _)]) hx hb dX5_alu_186 hl (by decide) rfl (fun ls hl => ?_)
                refine lv_aload_n hx hb dX5_alu_188 rfl (lv_at hl 3 rfl) ?_
                refine lv_iload_n hx hb dX5_alu_189 rfl (lv_at hl 4 rfl) ?_
                refine lv_iconst (v := 4) hx hb dX5_alu_190 (by decide) ?_
                refine lv_icmp_ne (tgt := 204) hx hb dX5_alu_191 (by decide) (fun c_22 => ?_) (fun c_22 => ?_)
                · refine lv_iconst (v := 0) hx hb dX5_alu_204 (by decide) ?_
                  refine pu_R_f14 (v := (0 : Int32)) hx hb hts hi5 hown hK hP hD hS (hts (.fieldLink RX5 63 "InvaderBoardModel" "half" "I") (by decide +kernel)) dX5_alu_205 (fun H locs hP hD hS => ?_)
                  refine lv_aload_n hx hb dX5_alu_208 rfl (lv_at hl 3 rfl) ?_
                  refine lv_iconst (v := 0) hx hb dX5_alu_209 (by decide) ?_
                  refine pu_R_f16 (v := (0 : Int32)) hx hb hts hi5 hown hK hP hD hS (hts (.fieldLink RX5 66 "InvaderBoardModel" "carry" "I") (by decide +kernel)) dX5_alu_210 (fun H locs hP hD hS => ?_)
                  refine lv_aload_n hx hb dX5_alu_213 rfl (lv_at hl 3 rfl) ?_
                  refine lv_iload hx hb dX5_alu_214 (lv_at hl 0 rfl) ?_
                  refine lv_sipush (v := 255) hx hb dX5_alu_216 (by decide) ?_
                  refine lv_iand hx hb dX5_alu_219 ?_
                  refine KC.callv (ci := 5) (rest := []) (wt := wR cI o (rSigns (upd (upd f 14 (0 : Int32)) 16 (0 : Int32)) a ((((a 2) (7 : Int32).toNatClampNeg) ||| p2) &&& (255 : Int32))) a) (kX5_signs l D cI o (upd (upd f 14 (0 : Int32)) 16 (0 : Int32)) a ((((a 2) (7 : Int32).toNatClampNeg) ||| p2) &&& (255 : Int32))) (cwV 1 hts gX5_alu_X5_signs rfl rfl rfl (by decide +kernel) ⟨Nat.le_of_ble_eq_true rfl, Nat.le_of_ble_eq_true rfl⟩) ⟨hx, hb, hml, hown, hts⟩ hK hP hD hS hA rfl rfl rfl [0, 1, 2, 3, 4, 5, 6] [] [0, 1, 2, 3, 4, 5, 6] (by decide) rfl (wr := []) rfl (by decide) (by decide) (by decide) rfl rfl hl.1 rfl (Nat.le_of_ble_eq_true rfl) dX5_alu_220 ⟨Nat.zero_le _, Nat.zero_le _⟩ (fun H locs hP hD hS => ?_)
                  refine lv_iload_n hx hb dX5_alu_223 rfl (lv_at hl 4 rfl) ?_
                  refine lv_bipush (v := 7) hx hb dX5_alu_224 (by decide) ?_
                  refine lv_icmp_ge (tgt := 242) hx hb dX5_alu_226 (by decide) (fun c_23 => ?_) (fun c_23 => ?_)
                  · have hF : rAlu f a p1 p2 = (rSigns (upd (upd f 14 (0 : Int32)) 16 (0 : Int32)) a ((((a 2) (7 : Int32).toNatClampNeg) ||| p2) &&& (255 : Int32)), a) := by simp only [rAlu, if_pos c_1, if_pos c_2, if_neg c_3, if_neg c_11, if_neg c_19, if_neg c_20, if_neg c_21, if_neg c_22, if_pos c_23]
                    rw [hF]
                    exact KC.retv hx hb hr hlocks hK hP hD hS dX5_alu_242
                  · refine lv_aload_n hx hb dX5_alu_229 rfl (lv_at hl 3 rfl) ?_
                    refine va_get (ci := 5) (v := .ref (o 23)) (C := RX5) (T := TX5) (N := 24) hx hb hts hi5 hown hK hP 0 rfl rfl 3 (by decide) (hts (.fieldLink RX5 16 "InvaderBoardModel" "reg" "[I") (by decide +kernel)) (fun _ h9 => h9) rfl dX5_alu_230 ?_
                    refine lv_bipush (v := 7) hx hb dX5_alu_233 (by decide) ?_
                    refine lv_iload hx hb dX5_alu_235 (lv_at hl 0 rfl) ?_
                    refine lv_sipush (v := 255) hx hb dX5_alu_237 (by decide) ?_
                    refine lv_iand hx hb dX5_alu_240 ?_
                    refine pu_R_a2 hx hb hK hP hD hS (by unfold vp_in; decide) dX5_alu_241 (fun H locs hP hD hS => ?_)
                    have hF : rAlu f a p1 p2 = (rSigns (upd (upd f 14 (0 : Int32)) 16 (0 : Int32)) a ((((a 2) (7 : Int32).toNatClampNeg) ||| p2) &&& (255 : Int32)), ua a 2 (upd (a 2) (7 : Int32).toNatClampNeg ((((a 2) (7 : Int32).toNatClampNeg) ||| p2) &&& (255 : Int32)))) := by simp only [rAlu, if_pos c_1, if_pos c_2, if_neg c_3, if_neg c_11, if_neg c_19, if_neg c_20, if_neg c_21, if_neg c_22, if_neg c_23]
                    rw [hF]
                    exact KC.retv hx hb hr hlocks hK hP hD hS dX5_alu_242
                · refine lv_iload_n hx hb dX5_alu_194 rfl (lv_at hl 2 rfl) ?_
                  refine lv_iload_n hx hb dX5_alu_195 rfl (lv_at hl 5 rfl) ?_
                  refine lv_ior hx hb dX5_alu_196 ?_
                  refine lv_iconst (v := 3) hx hb dX5_alu_197 (by decide) ?_
                  refine lv_ishr hx hb dX5_alu_198 ?_
                  refine lv_iconst (v := 1) hx hb dX5_alu_199 (by decide) ?_
                  refine lv_iand hx hb dX5_alu_200 ?_
                  refine lv_goto (tgt := 205) hx hb dX5_alu_201 (by decide) ?_
                  refine pu_R_f14 (v := ((((a 2) (7 : Int32).toNatClampNeg) ||| p2) >>> ((3 : Int32) &&& 31)) &&& (1 : Int32)) hx hb hts hi5 hown hK hP hD hS (hts (.fieldLink RX5 63 "InvaderBoardModel" "half" "I") (by decide +kernel)) dX5_alu_205 (fun H locs hP hD hS => ?_)
                  refine lv_aload_n hx hb dX5_alu_208 rfl (lv_at hl 3 rfl) ?_
                  refine lv_iconst (v := 0) hx hb dX5_alu_209 (by decide) ?_
                  refine pu_R_f16 (v := (0 : Int32)) hx hb hts hi5 hown hK hP hD hS (hts (.fieldLink RX5 66 "InvaderBoardModel" "carry" "I") (by decide +kernel)) dX5_alu_210 (fun H locs hP hD hS => ?_)
                  refine lv_aload_n hx hb dX5_alu_213 rfl (lv_at hl 3 rfl) ?_
                  refine lv_iload hx hb dX5_alu_214 (lv_at hl 0 rfl) ?_
                  refine lv_sipush (v := 255) hx hb dX5_alu_216 (by decide) ?_
                  refine lv_iand hx hb dX5_alu_219 ?_
                  refine KC.callv (ci := 5) (rest := []) (wt := wR cI o (rSigns (upd (upd f 14 (((((a 2) (7 : Int32).toNatClampNeg) ||| p2) >>> ((3 : Int32) &&& 31)) &&& (1 : Int32))) 16 (0 : Int32)) a ((((a 2) (7 : Int32).toNatClampNeg) ||| p2) &&& (255 : Int32))) a) (kX5_signs l D cI o (upd (upd f 14 (((((a 2) (7 : Int32).toNatClampNeg) ||| p2) >>> ((3 : Int32) &&& 31)) &&& (1 : Int32))) 16 (0 : Int32)) a ((((a 2) (7 : Int32).toNatClampNeg) ||| p2) &&& (255 : Int32))) (cwV 1 hts gX5_alu_X5_signs rfl rfl rfl (by decide +kernel) ⟨Nat.le_of_ble_eq_true rfl, Nat.le_of_ble_eq_true rfl⟩) ⟨hx, hb, hml, hown, hts⟩ hK hP hD hS hA rfl rfl rfl [0, 1, 2, 3, 4, 5, 6] [] [0, 1, 2, 3, 4, 5, 6] (by decide) rfl (wr := []) rfl (by decide) (by decide) (by decide) rfl rfl hl.1 rfl (Nat.le_of_ble_eq_true rfl) dX5_alu_220 ⟨Nat.zero_le _, Nat.zero_le _⟩ (fun H locs hP hD hS => ?_)
                  refine lv_iload_n hx hb dX5_alu_223 rfl (lv_at hl 4 rfl) ?_
                  refine lv_bipush (v := 7) hx hb dX5_alu_224 (by decide) ?_
                  refine lv_icmp_ge (tgt := 242) hx hb dX5_alu_226 (by decide) (fun c_24 => ?_) (fun c_24 => ?_)
                  · have hF : rAlu f a p1 p2 = (rSigns (upd (upd f 14 (((((a 2) (7 : Int32).toNatClampNeg) ||| p2) >>> ((3 : Int32) &&& 31)) &&& (1 : Int32))) 16 (0 : Int32)) a ((((a 2) (7 : Int32).toNatClampNeg) ||| p2) &&& (255 : Int32)), a) := by simp only [rAlu, if_pos c_1, if_pos c_2, if_neg c_3, if_neg c_11, if_neg c_19, if_neg c_20, if_neg c_21, if_pos c_22, if_pos c_24]
                    rw [hF]
                    exact KC.retv hx hb hr hlocks hK hP hD hS dX5_alu_242
                  · refine lv_aload_n hx hb dX5_alu_229 rfl (lv_at hl 3 rfl) ?_
                    refine va_get (ci := 5) (v := .ref (o 23)) (C := RX5) (T := TX5) (N := 24) hx hb hts hi5 hown hK hP 0 rfl rfl 3 (by decide) (hts (.fieldLink RX5 16 "InvaderBoardModel" "reg" "[I") (by decide +kernel)) (fun _ h9 => h9) rfl dX5_alu_230 ?_
                    refine lv_bipush (v := 7) hx hb dX5_alu_233 (by decide) ?_
                    refine lv_iload hx hb dX5_alu_235 (lv_at hl 0 rfl) ?_
                    refine lv_sipush (v := 255) hx hb dX5_alu_237 (by decide) ?_
                    refine lv_iand hx hb dX5_alu_240 ?_
                    refine pu_R_a2 hx hb hK hP hD hS (by unfold vp_in; decide) dX5_alu_241 (fun H locs hP hD hS => ?_)
                    have hF : rAlu f a p1 p2 = (rSigns (upd (upd f 14 (((((a 2) (7 : Int32).toNatClampNeg) ||| p2) >>> ((3 : Int32) &&& 31)) &&& (1 : Int32))) 16 (0 : Int32)) a ((((a 2) (7 : Int32).toNatClampNeg) ||| p2) &&& (255 : Int32)), ua a 2 (upd (a 2) (7 : Int32).toNatClampNeg ((((a 2) (7 : Int32).toNatClampNeg) ||| p2) &&& (255 : Int32)))) := by simp only [rAlu, if_pos c_1, if_pos c_2, if_neg c_3, if_neg c_11, if_neg c_19, if_neg c_20, if_neg c_21, if_pos c_22, if_neg c_24]
                    rw [hF]
                    exact KC.retv hx hb hr hlocks hK hP hD hS dX5_alu_242
              · refine lv_iload_n hx hb dX5_alu_177 rfl (lv_at hl 2 rfl) ?_
                refine lv_iload_n hx hb dX5_alu_178 rfl (lv_at hl 5 rfl) ?_
                refine lv_ixor hx hb dX5_alu_179 ?_
                refine lv_goto (tgt := 186) hx hb dX5_alu_180 (by decide) ?_
                refine lv_istore (lv' := [(5, .int _), (4, .int _), (3, .int _), (0, .ref _), (1, .int _), (2, .int _)]) hx hb dX5_alu_186 hl (by decide) rfl (fun ls hl => ?_)
                refine lv_aload_n hx hb dX5_alu_188 rfl (lv_at hl 3 rfl) ?_
                refine lv_iload_n hx hb dX5_alu_189 rfl (lv_at hl 4 rfl) ?_
                refine lv_iconst (v := 4) hx hb dX5_alu_190 (by decide) ?_
                refine lv_icmp_ne (tgt := 204) hx hb dX5_alu_191 (by decide) (fun c_25 => ?_) (fun c_25 => ?_)
                · refine lv_iconst (v := 0) hx hb dX5_alu_204 (by decide) ?_
                  refine pu_R_f14 (v := (0 : Int32)) hx hb hts hi5 hown hK hP hD hS (hts (.fieldLink RX5 63 "InvaderBoardModel" "half" "I") (by decide +kernel)) dX5_alu_205 (fun H locs hP hD hS => ?_)
                  refine lv_aload_n hx hb dX5_alu_208 rfl (lv_at hl 3 rfl) ?_
                  refine lv_iconst (v := 0) hx hb dX5_alu_209 (by decide) ?_
                  refine pu_R_f16 (v := (0 : Int32)) hx hb hts hi5 hown hK hP hD hS (hts (.fieldLink RX5 66 "InvaderBoardModel" "carry" "I") (by decide +kernel)) dX5_alu_210 (fun H locs hP hD hS => ?_)
                  refine lv_aload_n hx hb dX5_alu_213 rfl (lv_at hl 3 rfl) ?_
                  refine lv_iload hx hb dX5_alu_214 (lv_at hl 0 rfl) ?_
                  refine lv_sipush (v := 255) hx hb dX5_alu_216 (by decide) ?_
                  refine lv_iand hx hb dX5_alu_219 ?_
                  refine KC.callv (ci := 5) (rest := []) (wt := wR cI o (rSigns (upd (upd f 14 (0 : Int32)) 16 (0 : Int32)) a ((((a 2) (7 : Int32).toNatClampNeg) ^^^ p2) &&& (255 : Int32))) a) (kX5_signs l D cI o (upd (upd f 14 (0 : Int32)) 16 (0 : Int32)) a ((((a 2) (7 : Int32).toNatClampNeg) ^^^ p2) &&& (255 : Int32))) (cwV 1 hts gX5_alu_X5_signs rfl rfl rfl (by decide +kernel) ⟨Nat.le_of_ble_eq_true rfl, Nat.le_of_ble_eq_true rfl⟩) ⟨hx, hb, hml, hown, hts⟩ hK hP hD hS hA rfl rfl rfl [0, 1, 2, 3, 4, 5, 6] [] [0, 1, 2, 3, 4, 5, 6] (by decide) rfl (wr := []) rfl (by decide) (by decide) (by decide) rfl rfl hl.1 rfl (Nat.le_of_ble_eq_true rfl) dX5_alu_220 ⟨Nat.zero_le _, Nat.zero_le _⟩ (fun H locs hP hD hS => ?_)
                  refine lv_iload_n hx hb dX5_alu_223 rfl (lv_at hl 4 rfl) ?_
                  refine lv_bipush (v := 7) hx hb dX5_alu_224 (by decide) ?_
                  refine lv_icmp_ge (tgt := 242) hx hb dX5_alu_226 (by decide) (fun c_26 => ?_) (fun c_26 => ?_)
                  · have hF : rAlu f a p1 p2 = (rSigns (upd (upd f 14 (0 : Int32)) 16 (0 : Int32)) a ((((a 2) (7 : Int32).toNatClampNeg) ^^^ p2) &&& (255 : Int32)), a) := by simp only [rAlu, if_pos c_1, if_pos c_2, if_neg c_3, if_neg c_11, if_neg c_19, if_neg c_20, if_pos c_21, if_neg c_25, if_pos c_26]
                    rw [hF]
                    exact KC.retv hx hb hr hlocks hK hP hD hS dX5_alu_242
                  · refine lv_aload_n hx hb dX5_alu_229 rfl (lv_at hl 3 rfl) ?_
                    refine va_get (ci := 5) (v := .ref (o 23)) (C := RX5) (T := TX5) (N := 24) hx hb hts hi5 hown hK hP 0 rfl rfl 3 (by decide) (hts (.fieldLink RX5 16 "InvaderBoardModel" "reg" "[I") (by decide +kernel)) (fun _ h9 => h9) rfl dX5_alu_230 ?_
                    refine lv_bipush (v := 7) hx hb dX5_alu_233 (by decide) ?_
                    refine lv_iload hx hb dX5_alu_235 (lv_at hl 0 rfl) ?_
                    refine lv_sipush (v := 255) hx hb dX5_alu_237 (by decide) ?_
                    refine lv_iand hx hb dX5_alu_240 ?_
                    refine pu_R_a2 hx hb hK hP hD hS (by unfold vp_in; decide) dX5_alu_241 (fun H locs hP hD hS => ?_)
                    have hF : rAlu f a p1 p2 = (rSigns (upd (upd f 14 (0 : Int32)) 16 (0 : Int32)) a ((((a 2) (7 : Int32).toNatClampNeg) ^^^ p2) &&& (255 : Int32)), ua a 2 (upd (a 2) (7 : Int32).toNatClampNeg ((((a 2) (7 : Int32).toNatClampNeg) ^^^ p2) &&& (255 : Int32)))) := by simp only [rAlu, if_pos c_1, if_pos c_2, if_neg c_3, if_neg c_11, if_neg c_19, if_neg c_20, if_pos c_21, if_neg c_25, if_neg c_26]
                    rw [hF]
                    exact KC.retv hx hb hr hlocks hK hP hD hS dX5_alu_242
                · refine lv_iload_n hx hb dX5_alu_194 rfl (lv_at hl 2 rfl) ?_
                  refine lv_iload_n hx hb dX5_alu_195 rfl (lv_at hl 5 rfl) ?_
                  refine lv_ior hx hb dX5_alu_196 ?_
                  refine lv_iconst (v := 3) hx hb dX5_alu_197 (by decide) ?_
                  refine lv_ishr hx hb dX5_alu_198 ?_
                  refine lv_iconst (v := 1) hx hb dX5_alu_199 (by decide) ?_
                  refine lv_iand hx hb dX5_alu_200 ?_
                  refine lv_goto (tgt := 205) hx hb dX5_alu_201 (by decide) ?_
                  refine pu_R_f14 (v := ((((a 2) (7 : Int32).toNatClampNeg) ||| p2) >>> ((3 : Int32) &&& 31)) &&& (1 : Int32)) hx hb hts hi5 hown hK hP hD hS (hts (.fieldLink RX5 63 "InvaderBoardModel" "half" "I") (by decide +kernel)) dX5_alu_205 (fun H locs hP hD hS => ?_)
                  refine lv_aload_n hx hb dX5_alu_208 rfl (lv_at hl 3 rfl) ?_
                  refine lv_iconst (v := 0) hx hb dX5_alu_209 (by decide) ?_
                  refine pu_R_f16 (v := (0 : Int32)) hx hb hts hi5 hown hK hP hD hS (hts (.fieldLink RX5 66 "InvaderBoardModel" "carry" "I") (by decide +kernel)) dX5_alu_210 (fun H locs hP hD hS => ?_)
                  refine lv_aload_n hx hb dX5_alu_213 rfl (lv_at hl 3 rfl) ?_
                  refine lv_iload hx hb dX5_alu_214 (lv_at hl 0 rfl) ?_
                  refine lv_sipush (v := 255) hx hb dX5_alu_216 (by decide) ?_
                  refine lv_iand hx hb dX5_alu_219 ?_
                  refine KC.callv (ci := 5) (rest := []) (wt := wR cI o (rSigns (upd (upd f 14 (((((a 2) (7 : Int32).toNatClampNeg) ||| p2) >>> ((3 : Int32) &&& 31)) &&& (1 : Int32))) 16 (0 : Int32)) a ((((a 2) (7 : Int32).toNatClampNeg) ^^^ p2) &&& (255 : Int32))) a) (kX5_signs l D cI o (upd (upd f 14 (((((a 2) (7 : Int32).toNatClampNeg) ||| p2) >>> ((3 : Int32) &&& 31)) &&& (1 : Int32))) 16 (0 : Int32)) a ((((a 2) (7 : Int32).toNatClampNeg) ^^^ p2) &&& (255 : Int32))) (cwV 1 hts gX5_alu_X5_signs rfl rfl rfl (by decide +kernel) ⟨Nat.le_of_ble_eq_true rfl, Nat.le_of_ble_eq_true rfl⟩) ⟨hx, hb, hml, hown, hts⟩ hK hP hD hS hA rfl rfl rfl [0, 1, 2, 3, 4, 5, 6] [] [0, 1, 2, 3, 4, 5, 6] (by decide) rfl (wr := []) rfl (by decide) (by decide) (by decide) rfl rfl hl.1 rfl (Nat.le_of_ble_eq_true rfl) dX5_alu_220 ⟨Nat.zero_le _, Nat.zero_le _⟩ (fun H locs hP hD hS => ?_)
                  refine lv_iload_n hx hb dX5_alu_223 rfl (lv_at hl 4 rfl) ?_
                  refine lv_bipush (v := 7) hx hb dX5_alu_224 (by decide) ?_
                  refine lv_icmp_ge (tgt := 242) hx hb dX5_alu_226 (by decide) (fun c_27 => ?_) (fun c_27 => ?_)
                  · have hF : rAlu f a p1 p2 = (rSigns (upd (upd f 14 (((((a 2) (7 : Int32).toNatClampNeg) ||| p2) >>> ((3 : Int32) &&& 31)) &&& (1 : Int32))) 16 (0 : Int32)) a ((((a 2) (7 : Int32).toNatClampNeg) ^^^ p2) &&& (255 : Int32)), a) := by simp only [rAlu, if_pos c_1, if_pos c_2, if_neg c_3, if_neg c_11, if_neg c_19, if_neg c_20, if_pos c_21, if_pos c_25, if_pos c_27]
                    rw [hF]
                    exact KC.retv hx hb hr hlocks hK hP hD hS dX5_alu_242
                  · refine lv_aload_n hx hb dX5_alu_229 rfl (lv_at hl 3 rfl) ?_
                    refine va_get (ci := 5) (v := .ref (o 23)) (C := RX5) (T := TX5) (N := 24) hx hb hts hi5 hown hK hP 0 rfl rfl 3 (by decide) (hts (.fieldLink RX5 16 "InvaderBoardModel" "reg" "[I") (by decide +kernel)) (fun _ h9 => h9) rfl dX5_alu_230 ?_
                    refine lv_bipush (v := 7) hx hb dX5_alu_233 (by decide) ?_
                    refine lv_iload hx hb dX5_alu_235 (lv_at hl 0 rfl) ?_
                    refine lv_sipush (v := 255) hx hb dX5_alu_237 (by decide) ?_
                    refine lv_iand hx hb dX5_alu_240 ?_
                    refine pu_R_a2 hx hb hK hP hD hS (by unfold vp_in; decide) dX5_alu_241 (fun H locs hP hD hS => ?_)
                    have hF : rAlu f a p1 p2 = (rSigns (upd (upd f 14 (((((a 2) (7 : Int32).toNatClampNeg) ||| p2) >>> ((3 : Int32) &&& 31)) &&& (1 : Int32))) 16 (0 : Int32)) a ((((a 2) (7 : Int32).toNatClampNeg) ^^^ p2) &&& (255 : Int32)), ua a 2 (upd (a 2) (7 : Int32).toNatClampNeg ((((a 2) (7 : Int32).toNatClampNeg) ^^^ p2) &&& (255 : Int32)))) := by simp only [rAlu, if_pos c_1, if_pos c_2, if_neg c_3, if_neg c_11, if_neg c_19, if_neg c_20, if_pos c_21, if_pos c_25, if_neg c_27]
                    rw [hF]
                    exact KC.retv hx hb hr hlocks hK hP hD hS dX5_alu_242
            · refine lv_iload_n hx hb dX5_alu_166 rfl (lv_at hl 2 rfl) ?_
              refine lv_iload_n hx hb dX5_alu_167 rfl (lv_at hl 5 rfl) ?_
              refine lv_iand hx hb dX5_alu_168 ?_
              refine lv_goto (tgt := 186) hx hb dX5_alu_169 (by decide) ?_
              refine lv_istore (lv' := [(5, .int _), (4, .int _), (3, .int _), (0, .ref _), (1, .int _), (2, .int _)]) hx hb dX5_alu_186 hl (by decide) rfl (fun ls hl => ?_)
              refine lv_aload_n hx hb dX5_alu_188 rfl (lv_at hl 3 rfl) ?_
              refine lv_iload_n hx hb dX5_alu_189 rfl (lv_at hl 4 rfl) ?_
              refine lv_iconst (v := 4) hx hb dX5_alu_190 (by decide) ?_
              refine lv_icmp_ne (tgt := 204) hx hb dX5_alu_191 (by decide) (fun c_28 => ?_) (fun c_28 => ?_)
              · refine lv_iconst (v := 0) hx hb dX5_alu_204 (by decide) ?_
                refine pu_R_f14 (v := (0 : Int32)) hx hb hts hi5 hown hK hP hD hS (hts (.fieldLink RX5 63 "InvaderBoardModel" "half" "I") (by decide +kernel)) dX5_alu_205 (fun H locs hP hD hS => ?_)
                refine lv_aload_n hx hb dX5_alu_208 rfl (lv_at hl 3 rfl) ?_
                refine lv_iconst (v := 0) hx hb dX5_alu_209 (by decide) ?_
                refine pu_R_f16 (v := (0 : Int32)) hx hb hts hi5 hown hK hP hD hS (hts (.fieldLink RX5 66 "InvaderBoardModel" "carry" "I") (by decide +kernel)) dX5_alu_210 (fun H locs hP hD hS => ?_)
                refine lv_aload_n hx hb dX5_alu_213 rfl (lv_at hl 3 rfl) ?_
                refine lv_iload hx hb dX5_alu_214 (lv_at hl 0 rfl) ?_
                refine lv_sipush (v := 255) hx hb dX5_alu_216 (by decide) ?_
                refine lv_iand hx hb dX5_alu_219 ?_
                refine KC.callv (ci := 5) (rest := []) (wt := wR cI o (rSigns (upd (upd f 14 (0 : Int32)) 16 (0 : Int32)) a ((((a 2) (7 : Int32).toNatClampNeg) &&& p2) &&& (255 : Int32))) a) (kX5_signs l D cI o (upd (upd f 14 (0 : Int32)) 16 (0 : Int32)) a ((((a 2) (7 : Int32).toNatClampNeg) &&& p2) &&& (255 : Int32))) (cwV 1 hts gX5_alu_X5_signs rfl rfl rfl (by decide +kernel) ⟨Nat.le_of_ble_eq_true rfl, Nat.le_of_ble_eq_true rfl⟩) ⟨hx, hb, hml, hown, hts⟩ hK hP hD hS hA rfl rfl rfl [0, 1, 2, 3, 4, 5, 6] [] [0, 1, 2, 3, 4, 5, 6] (by decide) rfl (wr := []) rfl (by decide) (by decide) (by decide) rfl rfl hl.1 rfl (Nat.le_of_ble_eq_true rfl) dX5_alu_220 ⟨Nat.zero_le _, Nat.zero_le _⟩ (fun H locs hP hD hS => ?_)
                refine lv_iload_n hx hb dX5_alu_223 rfl (lv_at hl 4 rfl) ?_
                refine lv_bipush (v := 7) hx hb dX5_alu_224 (by decide) ?_
                refine lv_icmp_ge (tgt := 242) hx hb dX5_alu_226 (by decide) (fun c_29 => ?_) (fun c_29 => ?_)
                · have hF : rAlu f a p1 p2 = (rSigns (upd (upd f 14 (0 : Int32)) 16 (0 : Int32)) a ((((a 2) (7 : Int32).toNatClampNeg) &&& p2) &&& (255 : Int32)), a) := by simp only [rAlu, if_pos c_1, if_pos c_2, if_neg c_3, if_neg c_11, if_neg c_19, if_pos c_20, if_neg c_28, if_pos c_29]
                  rw [hF]
                  exact KC.retv hx hb hr hlocks hK hP hD hS dX5_alu_242
                · refine lv_aload_n hx hb dX5_alu_229 rfl (lv_at hl 3 rfl) ?_
                  refine va_get (ci := 5) (v := .ref (o 23)) (C := RX5) (T := TX5) (N := 24) hx hb hts hi5 hown hK hP 0 rfl rfl 3 (by decide) (hts (.fieldLink RX5 16 "InvaderBoardModel" "reg" "[I") (by decide +kernel)) (fun _ h9 => h9) rfl dX5_alu_230 ?_
                  refine lv_bipush (v := 7) hx hb dX5_alu_233 (by decide) ?_
                  refine lv_iload hx hb dX5_alu_235 (lv_at hl 0 rfl) ?_
                  refine lv_sipush (v := 255) hx hb dX5_alu_237 (by decide) ?_
                  refine lv_iand hx hb dX5_alu_240 ?_
                  refine pu_R_a2 hx hb hK hP hD hS (by unfold vp_in; decide) dX5_alu_241 (fun H locs hP hD hS => ?_)
                  have hF : rAlu f a p1 p2 = (rSigns (upd (upd f 14 (0 : Int32)) 16 (0 : Int32)) a ((((a 2) (7 : Int32).toNatClampNeg) &&& p2) &&& (255 : Int32)), ua a 2 (upd (a 2) (7 : Int32).toNatClampNeg ((((a 2) (7 : Int32).toNatClampNeg) &&& p2) &&& (255 : Int32)))) := by simp only [rAlu, if_pos c_1, if_pos c_2, if_neg c_3, if_neg c_11, if_neg c_19, if_pos c_20, if_neg c_28, if_neg c_29]
                  rw [hF]
                  exact KC.retv hx hb hr hlocks hK hP hD hS dX5_alu_242
              · refine lv_iload_n hx hb dX5_alu_194 rfl (lv_at hl 2 rfl) ?_
                refine lv_iload_n hx hb dX5_alu_195 rfl (lv_at hl 5 rfl) ?_
                refine lv_ior hx hb dX5_alu_196 ?_
                refine lv_iconst (v := 3) hx hb dX5_alu_197 (by decide) ?_
                refine lv_ishr hx hb dX5_alu_198 ?_
                refine lv_iconst (v := 1) hx hb dX5_alu_199 (by decide) ?_
                refine lv_iand hx hb dX5_alu_200 ?_
                refine lv_goto (tgt := 205) hx hb dX5_alu_201 (by decide) ?_
                refine pu_R_f14 (v := ((((a 2) (7 : Int32).toNatClampNeg) ||| p2) >>> ((3 : Int32) &&& 31)) &&& (1 : Int32)) hx hb hts hi5 hown hK hP hD hS (hts (.fieldLink RX5 63 "InvaderBoardModel" "half" "I") (by decide +kernel)) dX5_alu_205 (fun H locs hP hD hS => ?_)
                refine lv_aload_n hx hb dX5_alu_208 rfl (lv_at hl 3 rfl) ?_
                refine lv_iconst (v := 0) hx hb dX5_alu_209 (by decide) ?_
                refine pu_R_f16 (v := (0 : Int32)) hx hb hts hi5 hown hK hP hD hS (hts (.fieldLink RX5 66 "InvaderBoardModel" "carry" "I") (by decide +kernel)) dX5_alu_210 (fun H locs hP hD hS => ?_)
                refine lv_aload_n hx hb dX5_alu_213 rfl (lv_at hl 3 rfl) ?_
                refine lv_iload hx hb dX5_alu_214 (lv_at hl 0 rfl) ?_
                refine lv_sipush (v := 255) hx hb dX5_alu_216 (by decide) ?_
                refine lv_iand hx hb dX5_alu_219 ?_
                refine KC.callv (ci := 5) (rest := []) (wt := wR cI o (rSigns (upd (upd f 14 (((((a 2) (7 : Int32).toNatClampNeg) ||| p2) >>> ((3 : Int32) &&& 31)) &&& (1 : Int32))) 16 (0 : Int32)) a ((((a 2) (7 : Int32).toNatClampNeg) &&& p2) &&& (255 : Int32))) a) (kX5_signs l D cI o (upd (upd f 14 (((((a 2) (7 : Int32).toNatClampNeg) ||| p2) >>> ((3 : Int32) &&& 31)) &&& (1 : Int32))) 16 (0 : Int32)) a ((((a 2) (7 : Int32).toNatClampNeg) &&& p2) &&& (255 : Int32))) (cwV 1 hts gX5_alu_X5_signs rfl rfl rfl (by decide +kernel) ⟨Nat.le_of_ble_eq_true rfl, Nat.le_of_ble_eq_true rfl⟩) ⟨hx, hb, hml, hown, hts⟩ hK hP hD hS hA rfl rfl rfl [0, 1, 2, 3, 4, 5, 6] [] [0, 1, 2, 3, 4, 5, 6] (by decide) rfl (wr := []) rfl (by decide) (by decide) (by decide) rfl rfl hl.1 rfl (Nat.le_of_ble_eq_true rfl) dX5_alu_220 ⟨Nat.zero_le _, Nat.zero_le _⟩ (fun H locs hP hD hS => ?_)
                refine lv_iload_n hx hb dX5_alu_223 rfl (lv_at hl 4 rfl) ?_
                refine lv_bipush (v := 7) hx hb dX5_alu_224 (by decide) ?_
                refine lv_icmp_ge (tgt := 242) hx hb dX5_alu_226 (by decide) (fun c_30 => ?_) (fun c_30 => ?_)
                · have hF : rAlu f a p1 p2 = (rSigns (upd (upd f 14 (((((a 2) (7 : Int32).toNatClampNeg) ||| p2) >>> ((3 : Int32) &&& 31)) &&& (1 : Int32))) 16 (0 : Int32)) a ((((a 2) (7 : Int32).toNatClampNeg) &&& p2) &&& (255 : Int32)), a) := by simp only [rAlu, if_pos c_1, if_pos c_2, if_neg c_3, if_neg c_11, if_neg c_19, if_pos c_20, if_pos c_28, if_pos c_30]
                  rw [hF]
                  exact KC.retv hx hb hr hlocks hK hP hD hS dX5_alu_242
                · refine lv_aload_n hx hb dX5_alu_229 rfl (lv_at hl 3 rfl) ?_
                  refine va_get (ci := 5) (v := .ref (o 23)) (C := RX5) (T := TX5) (N := 24) hx hb hts hi5 hown hK hP 0 rfl rfl 3 (by decide) (hts (.fieldLink RX5 16 "InvaderBoardModel" "reg" "[I") (by decide +kernel)) (fun _ h9 => h9) rfl dX5_alu_230 ?_
                  refine lv_bipush (v := 7) hx hb dX5_alu_233 (by decide) ?_
                  refine lv_iload hx hb dX5_alu_235 (lv_at hl 0 rfl) ?_
                  refine lv_sipush (v := 255) hx hb dX5_alu_237 (by decide) ?_
                  refine lv_iand hx hb dX5_alu_240 ?_
                  refine pu_R_a2 hx hb hK hP hD hS (by unfold vp_in; decide) dX5_alu_241 (fun H locs hP hD hS => ?_)
                  have hF : rAlu f a p1 p2 = (rSigns (upd (upd f 14 (((((a 2) (7 : Int32).toNatClampNeg) ||| p2) >>> ((3 : Int32) &&& 31)) &&& (1 : Int32))) 16 (0 : Int32)) a ((((a 2) (7 : Int32).toNatClampNeg) &&& p2) &&& (255 : Int32)), ua a 2 (upd (a 2) (7 : Int32).toNatClampNeg ((((a 2) (7 : Int32).toNatClampNeg) &&& p2) &&& (255 : Int32)))) := by simp only [rAlu, if_pos c_1, if_pos c_2, if_neg c_3, if_neg c_11, if_neg c_19, if_pos c_20, if_pos c_28, if_neg c_30]
                  rw [hF]
                  exact KC.retv hx hb hr hlocks hK hP hD hS dX5_alu_242
          · refine lv_iload_n hx hb dX5_alu_106 rfl (lv_at hl 2 rfl) ?_
            refine lv_iload_n hx hb dX5_alu_107 rfl (lv_at hl 5 rfl) ?_
            refine lv_isub hx hb dX5_alu_108 ?_
            refine lv_iload hx hb dX5_alu_109 (lv_at hl 1 rfl) ?_
            refine lv_isub hx hb dX5_alu_111 ?_
            refine lv_istore (lv' := [(5, .int _), (4, .int _), (3, .int _), (0, .ref _), (1, .int _), (2, .int _)]) hx hb dX5_alu_112 hl (by decide) rfl (fun ls hl => ?_)
            refine lv_aload_n hx hb dX5_alu_114 rfl (lv_at hl 3 rfl) ?_
            refine lv_iload_n hx hb dX5_alu_115 rfl (lv_at hl 2 rfl) ?_
            refine lv_bipush (v := 15) hx hb dX5_alu_116 (by decide) ?_
            refine lv_iand hx hb dX5_alu_118 ?_
            refine lv_iload_n hx hb dX5_alu_119 rfl (lv_at hl 5 rfl) ?_
            refine lv_iconst (v := -1) hx hb dX5_alu_120 (by decide) ?_
            refine lv_ixor hx hb dX5_alu_121 ?_
            refine lv_bipush (v := 15) hx hb dX5_alu_122 (by decide) ?_
            refine lv_iand hx hb dX5_alu_124 ?_
            refine lv_iadd hx hb dX5_alu_125 ?_
            refine lv_iconst (v := 1) hx hb dX5_alu_126 (by decide) ?_
            refine lv_iadd hx hb dX5_alu_127 ?_
            refine lv_iload hx hb dX5_alu_128 (lv_at hl 1 rfl) ?_
            refine lv_isub hx hb dX5_alu_130 ?_
            refine lv_bipush (v := 15) hx hb dX5_alu_131 (by decide) ?_
            refine lv_icmp_le (tgt := 140) hx hb dX5_alu_133 (by decide) (fun c_31 => ?_) (fun c_31 => ?_)
            · refine lv_iconst (v := 0) hx hb dX5_alu_140 (by decide) ?_
              refine pu_R_f14 (v := (0 : Int32)) hx hb hts hi5 hown hK hP hD hS (hts (.fieldLink RX5 63 "InvaderBoardModel" "half" "I") (by decide +kernel)) dX5_alu_141 (fun H locs hP hD hS => ?_)
              refine lv_aload_n hx hb dX5_alu_144 rfl (lv_at hl 3 rfl) ?_
              refine lv_iload hx hb dX5_alu_145 (lv_at hl 0 rfl) ?_
              refine lv_if_ge (tgt := 154) hx hb dX5_alu_147 (by decide) (fun c_32 => ?_) (fun c_32 => ?_)
              · refine lv_iconst (v := 0) hx hb dX5_alu_154 (by decide) ?_
                refine pu_R_f16 (v := (0 : Int32)) hx hb hts hi5 hown hK hP hD hS (hts (.fieldLink RX5 66 "InvaderBoardModel" "carry" "I") (by decide +kernel)) dX5_alu_155 (fun H locs hP hD hS => ?_)
                refine lv_goto (tgt := 213) hx hb dX5_alu_158 (by decide) ?_
                refine lv_aload_n hx hb dX5_alu_213 rfl (lv_at hl 3 rfl) ?_
                refine lv_iload hx hb dX5_alu_214 (lv_at hl 0 rfl) ?_
                refine lv_sipush (v := 255) hx hb dX5_alu_216 (by decide) ?_
                refine lv_iand hx hb dX5_alu_219 ?_
                refine KC.callv (ci := 5) (rest := []) (wt := wR cI o (rSigns (upd (upd f 14 (0 : Int32)) 16 (0 : Int32)) a (((((a 2) (7 : Int32).toNatClampNeg) - p2) - (f 16)) &&& (255 : Int32))) a) (kX5_signs l D cI o (upd (upd f 14 (0 : Int32)) 16 (0 : Int32)) a (((((a 2) (7 : Int32).toNatClampNeg) - p2) - (f 16)) &&& (255 : Int32))) (cwV 1 hts gX5_alu_X5_signs rfl rfl rfl (by decide +kernel) ⟨Nat.le_of_ble_eq_true rfl, Nat.le_of_ble_eq_true rfl⟩) ⟨hx, hb, hml, hown, hts⟩ hK hP hD hS hA rfl rfl rfl [0, 1, 2, 3, 4, 5, 6] [] [0, 1, 2, 3, 4, 5, 6] (by decide) rfl (wr := []) rfl (by decide) (by decide) (by decide) rfl rfl hl.1 rfl (Nat.le_of_ble_eq_true rfl) dX5_alu_220 ⟨Nat.zero_le _, Nat.zero_le _⟩ (fun H locs hP hD hS => ?_)
                refine lv_iload_n hx hb dX5_alu_223 rfl (lv_at hl 4 rfl) ?_
                refine lv_bipush (v := 7) hx hb dX5_alu_224 (by decide) ?_
                refine lv_icmp_ge (tgt := 242) hx hb dX5_alu_226 (by decide) (fun c_33 => ?_) (fun c_33 => ?_)
                · have hF : rAlu f a p1 p2 = (rSigns (upd (upd f 14 (0 : Int32)) 16 (0 : Int32)) a (((((a 2) (7 : Int32).toNatClampNeg) - p2) - (f 16)) &&& (255 : Int32)), a) := by simp only [rAlu, if_pos c_1, if_pos c_2, if_neg c_3, if_neg c_11, if_pos c_19, if_pos c_31, if_pos c_32, if_pos c_33]
                  rw [hF]
                  exact KC.retv hx hb hr hlocks hK hP hD hS dX5_alu_242
                · refine lv_aload_n hx hb dX5_alu_229 rfl (lv_at hl 3 rfl) ?_
                  refine va_get (ci := 5) (v := .ref (o 23)) (C := RX5) (T := TX5) (N := 24) hx hb hts hi5 hown hK hP 0 rfl rfl 3 (by decide) (hts (.fieldLink RX5 16 "InvaderBoardModel" "reg" "[I") (by decide +kernel)) (fun _ h9 => h9) rfl dX5_alu_230 ?_
                  refine lv_bipush (v := 7) hx hb dX5_alu_233 (by decide) ?_
                  refine lv_iload hx hb dX5_alu_235 (lv_at hl 0 rfl) ?_
                  refine lv_sipush (v := 255) hx hb dX5_alu_237 (by decide) ?_
                  refine lv_iand hx hb dX5_alu_240 ?_
                  refine pu_R_a2 hx hb hK hP hD hS (by unfold vp_in; decide) dX5_alu_241 (fun H locs hP hD hS => ?_)
                  have hF : rAlu f a p1 p2 = (rSigns (upd (upd f 14 (0 : Int32)) 16 (0 : Int32)) a (((((a 2) (7 : Int32).toNatClampNeg) - p2) - (f 16)) &&& (255 : Int32)), ua a 2 (upd (a 2) (7 : Int32).toNatClampNeg (((((a 2) (7 : Int32).toNatClampNeg) - p2) - (f 16)) &&& (255 : Int32)))) := by simp only [rAlu, if_pos c_1, if_pos c_2, if_neg c_3, if_neg c_11, if_pos c_19, if_pos c_31, if_pos c_32, if_neg c_33]
                  rw [hF]
                  exact KC.retv hx hb hr hlocks hK hP hD hS dX5_alu_242
              · refine lv_iconst (v := 1) hx hb dX5_alu_150 (by decide) ?_
                refine lv_goto (tgt := 155) hx hb dX5_alu_151 (by decide) ?_
                refine pu_R_f16 (v := (1 : Int32)) hx hb hts hi5 hown hK hP hD hS (hts (.fieldLink RX5 66 "InvaderBoardModel" "carry" "I") (by decide +kernel)) dX5_alu_155 (fun H locs hP hD hS => ?_)
                refine lv_goto (tgt := 213) hx hb dX5_alu_158 (by decide) ?_
                refine lv_aload_n hx hb dX5_alu_213 rfl (lv_at hl 3 rfl) ?_
                refine lv_iload hx hb dX5_alu_214 (lv_at hl 0 rfl) ?_
                refine lv_sipush (v := 255) hx hb dX5_alu_216 (by decide) ?_
                refine lv_iand hx hb dX5_alu_219 ?_
                refine KC.callv (ci := 5) (rest := []) (wt := wR cI o (rSigns (upd (upd f 14 (0 : Int32)) 16 (1 : Int32)) a (((((a 2) (7 : Int32).toNatClampNeg) - p2) - (f 16)) &&& (255 : Int32))) a) (kX5_signs l D cI o (upd (upd f 14 (0 : Int32)) 16 (1 : Int32)) a (((((a 2) (7 : Int32).toNatClampNeg) - p2) - (f 16)) &&& (255 : Int32))) (cwV 1 hts gX5_alu_X5_signs rfl rfl rfl (by decide +kernel) ⟨Nat.le_of_ble_eq_true rfl, Nat.le_of_ble_eq_true rfl⟩) ⟨hx, hb, hml, hown, hts⟩ hK hP hD hS hA rfl rfl rfl [0, 1, 2, 3, 4, 5, 6] [] [0, 1, 2, 3, 4, 5, 6] (by decide) rfl (wr := []) rfl (by decide) (by decide) (by decide) rfl rfl hl.1 rfl (Nat.le_of_ble_eq_true rfl) dX5_alu_220 ⟨Nat.zero_le _, Nat.zero_le _⟩ (fun H locs hP hD hS => ?_)
                refine lv_iload_n hx hb dX5_alu_223 rfl (lv_at hl 4 rfl) ?_
                refine lv_bipush (v := 7) hx hb dX5_alu_224 (by decide) ?_
                refine lv_icmp_ge (tgt := 242) hx hb dX5_alu_226 (by decide) (fun c_34 => ?_) (fun c_34 => ?_)
                · have hF : rAlu f a p1 p2 = (rSigns (upd (upd f 14 (0 : Int32)) 16 (1 : Int32)) a (((((a 2) (7 : Int32).toNatClampNeg) - p2) - (f 16)) &&& (255 : Int32)), a) := by simp only [rAlu, if_pos c_1, if_pos c_2, if_neg c_3, if_neg c_11, if_pos c_19, if_pos c_31, if_neg c_32, if_pos c_34]
                  rw [hF]
                  exact KC.retv hx hb hr hlocks hK hP hD hS dX5_alu_242
                · refine lv_aload_n hx hb dX5_alu_229 rfl (lv_at hl 3 rfl) ?_
                  refine va_get (ci := 5) (v := .ref (o 23)) (C := RX5) (T := TX5) (N := 24) hx hb hts hi5 hown hK hP 0 rfl rfl 3 (by decide) (hts (.fieldLink RX5 16 "InvaderBoardModel" "reg" "[I") (by decide +kernel)) (fun _ h9 => h9) rfl dX5_alu_230 ?_
                  refine lv_bipush (v := 7) hx hb dX5_alu_233 (by decide) ?_
                  refine lv_iload hx hb dX5_alu_235 (lv_at hl 0 rfl) ?_
                  refine lv_sipush (v := 255) hx hb dX5_alu_237 (by decide) ?_
                  refine lv_iand hx hb dX5_alu_240 ?_
                  refine pu_R_a2 hx hb hK hP hD hS (by unfold vp_in; decide) dX5_alu_241 (fun H locs hP hD hS => ?_)
                  have hF : rAlu f a p1 p2 = (rSigns (upd (upd f 14 (0 : Int32)) 16 (1 : Int32)) a (((((a 2) (7 : Int32).toNatClampNeg) - p2) - (f 16)) &&& (255 : Int32)), ua a 2 (upd (a 2) (7 : Int32).toNatClampNeg (((((a 2) (7 : Int32).toNatClampNeg) - p2) - (f 16)) &&& (255 : Int32)))) := by simp only [rAlu, if_pos c_1, if_pos c_2, if_neg c_3, if_neg c_11, if_pos c_19, if_pos c_31, if_neg c_32, if_neg c_34]
                  rw [hF]
                  exact KC.retv hx hb hr hlocks hK hP hD hS dX5_alu_242
            · refine lv_iconst (v := 1) hx hb dX5_alu_136 (by decide) ?_
              refine lv_goto (tgt := 141) hx hb dX5_alu_137 (by decide) ?_
              refine pu_R_f14 (v := (1 : Int32)) hx hb hts hi5 hown hK hP hD hS (hts (.fieldLink RX5 63 "InvaderBoardModel" "half" "I") (by decide +kernel)) dX5_alu_141 (fun H locs hP hD hS => ?_)
              refine lv_aload_n hx hb dX5_alu_144 rfl (lv_at hl 3 rfl) ?_
              refine lv_iload hx hb dX5_alu_145 (lv_at hl 0 rfl) ?_
              refine lv_if_ge (tgt := 154) hx hb dX5_alu_147 (by decide) (fun c_35 => ?_) (fun c_35 => ?_)
              · refine lv_iconst (v := 0) hx hb dX5_alu_154 (by decide) ?_
                refine pu_R_f16 (v := (0 : Int32)) hx hb hts hi5 hown hK hP hD hS (hts (.fieldLink RX5 66 "InvaderBoardModel" "carry" "I") (by decide +kernel)) dX5_alu_155 (fun H locs hP hD hS => ?_)
                refine lv_goto (tgt := 213) hx hb dX5_alu_158 (by decide) ?_
                refine lv_aload_n hx hb dX5_alu_213 rfl (lv_at hl 3 rfl) ?_
                refine lv_iload hx hb dX5_alu_214 (lv_at hl 0 rfl) ?_
                refine lv_sipush (v := 255) hx hb dX5_alu_216 (by decide) ?_
                refine lv_iand hx hb dX5_alu_219 ?_
                refine KC.callv (ci := 5) (rest := []) (wt := wR cI o (rSigns (upd (upd f 14 (1 : Int32)) 16 (0 : Int32)) a (((((a 2) (7 : Int32).toNatClampNeg) - p2) - (f 16)) &&& (255 : Int32))) a) (kX5_signs l D cI o (upd (upd f 14 (1 : Int32)) 16 (0 : Int32)) a (((((a 2) (7 : Int32).toNatClampNeg) - p2) - (f 16)) &&& (255 : Int32))) (cwV 1 hts gX5_alu_X5_signs rfl rfl rfl (by decide +kernel) ⟨Nat.le_of_ble_eq_true rfl, Nat.le_of_ble_eq_true rfl⟩) ⟨hx, hb, hml, hown, hts⟩ hK hP hD hS hA rfl rfl rfl [0, 1, 2, 3, 4, 5, 6] [] [0, 1, 2, 3, 4, 5, 6] (by decide) rfl (wr := []) rfl (by decide) (by decide) (by decide) rfl rfl hl.1 rfl (Nat.le_of_ble_eq_true rfl) dX5_alu_220 ⟨Nat.zero_le _, Nat.zero_le _⟩ (fun H locs hP hD hS => ?_)
                refine lv_iload_n hx hb dX5_alu_223 rfl (lv_at hl 4 rfl) ?_
                refine lv_bipush (v := 7) hx hb dX5_alu_224 (by decide) ?_
                refine lv_icmp_ge (tgt := 242) hx hb dX5_alu_226 (by decide) (fun c_36 => ?_) (fun c_36 => ?_)
                · have hF : rAlu f a p1 p2 = (rSigns (upd (upd f 14 (1 : Int32)) 16 (0 : Int32)) a (((((a 2) (7 : Int32).toNatClampNeg) - p2) - (f 16)) &&& (255 : Int32)), a) := by simp only [rAlu, if_pos c_1, if_pos c_2, if_neg c_3, if_neg c_11, if_pos c_19, if_neg c_31, if_pos c_35, if_pos c_36]
                  rw [hF]
                  exact KC.retv hx hb hr hlocks hK hP hD hS dX5_alu_242
                · refine lv_aload_n hx hb dX5_alu_229 rfl (lv_at hl 3 rfl) ?_
                  refine va_get (ci := 5) (v := .ref (o 23)) (C := RX5) (T := TX5) (N := 24) hx hb hts hi5 hown hK hP 0 rfl rfl 3 (by decide) (hts (.fieldLink RX5 16 "InvaderBoardModel" "reg" "[I") (by decide +kernel)) (fun _ h9 => h9) rfl dX5_alu_230 ?_
                  refine lv_bipush (v := 7) hx hb dX5_alu_233 (by decide) ?_
                  refine lv_iload hx hb dX5_alu_235 (lv_at hl 0 rfl) ?_
                  refine lv_sipush (v := 255) hx hb dX5_alu_237 (by decide) ?_
                  refine lv_iand hx hb dX5_alu_240 ?_
                  refine pu_R_a2 hx hb hK hP hD hS (by unfold vp_in; decide) dX5_alu_241 (fun H locs hP hD hS => ?_)
                  have hF : rAlu f a p1 p2 = (rSigns (upd (upd f 14 (1 : Int32)) 16 (0 : Int32)) a (((((a 2) (7 : Int32).toNatClampNeg) - p2) - (f 16)) &&& (255 : Int32)), ua a 2 (upd (a 2) (7 : Int32).toNatClampNeg (((((a 2) (7 : Int32).toNatClampNeg) - p2) - (f 16)) &&& (255 : Int32)))) := by simp only [rAlu, if_pos c_1, if_pos c_2, if_neg c_3, if_neg c_11, if_pos c_19, if_neg c_31, if_pos c_35, if_neg c_36]
                  rw [hF]
                  exact KC.retv hx hb hr hlocks hK hP hD hS dX5_alu_242
              · refine lv_iconst (v := 1) hx hb dX5_alu_150 (by decide) ?_
                refine lv_goto (tgt := 155) hx hb dX5_alu_151 (by decide) ?_
                refine pu_R_f16 (v := (1 : Int32)) hx hb hts hi5 hown hK hP hD hS (hts (.fieldLink RX5 66 "InvaderBoardModel" "carry" "I") (by decide +kernel)) dX5_alu_155 (fun H locs hP hD hS => ?_)
                refine lv_goto (tgt := 213) hx hb dX5_alu_158 (by decide) ?_
                refine lv_aload_n hx hb dX5_alu_213 rfl (lv_at hl 3 rfl) ?_
                refine lv_iload hx hb dX5_alu_214 (lv_at hl 0 rfl) ?_
                refine lv_sipush (v := 255) hx hb dX5_alu_216 (by decide) ?_
                refine lv_iand hx hb dX5_alu_219 ?_
                refine KC.callv (ci := 5) (rest := []) (wt := wR cI o (rSigns (upd (upd f 14 (1 : Int32)) 16 (1 : Int32)) a (((((a 2) (7 : Int32).toNatClampNeg) - p2) - (f 16)) &&& (255 : Int32))) a) (kX5_signs l D cI o (upd (upd f 14 (1 : Int32)) 16 (1 : Int32)) a (((((a 2) (7 : Int32).toNatClampNeg) - p2) - (f 16)) &&& (255 : Int32))) (cwV 1 hts gX5_alu_X5_signs rfl rfl rfl (by decide +kernel) ⟨Nat.le_of_ble_eq_true rfl, Nat.le_of_ble_eq_true rfl⟩) ⟨hx, hb, hml, hown, hts⟩ hK hP hD hS hA rfl rfl rfl [0, 1, 2, 3, 4, 5, 6] [] [0, 1, 2, 3, 4, 5, 6] (by decide) rfl (wr := []) rfl (by decide) (by decide) (by decide) rfl rfl hl.1 rfl (Nat.le_of_ble_eq_true rfl) dX5_alu_220 ⟨Nat.zero_le _, Nat.zero_le _⟩ (fun H locs hP hD hS => ?_)
                refine lv_iload_n hx hb dX5_alu_223 rfl (lv_at hl 4 rfl) ?_
                refine lv_bipush (v := 7) hx hb dX5_alu_224 (by decide) ?_
                refine lv_icmp_ge (tgt := 242) hx hb dX5_alu_226 (by decide) (fun c_37 => ?_) (fun c_37 => ?_)
                · have hF : rAlu f a p1 p2 = (rSigns (upd (upd f 14 (1 : Int32)) 16 (1 : Int32)) a (((((a 2) (7 : Int32).toNatClampNeg) - p2) - (f 16)) &&& (255 : Int32)), a) := by simp only [rAlu, if_pos c_1, if_pos c_2, if_neg c_3, if_neg c_11, if_pos c_19, if_neg c_31, if_neg c_35, if_pos c_37]
                  rw [hF]
                  exact KC.retv hx hb hr hlocks hK hP hD hS dX5_alu_242
                · refine lv_aload_n hx hb dX5_alu_229 rfl (lv_at hl 3 rfl) ?_
                  refine va_get (ci := 5) (v := .ref (o 23)) (C := RX5) (T := TX5) (N := 24) hx hb hts hi5 hown hK hP 0 rfl rfl 3 (by decide) (hts (.fieldLink RX5 16 "InvaderBoardModel" "reg" "[I") (by decide +kernel)) (fun _ h9 => h9) rfl dX5_alu_230 ?_
                  refine lv_bipush (v := 7) hx hb dX5_alu_233 (by decide) ?_
                  refine lv_iload hx hb dX5_alu_235 (lv_at hl 0 rfl) ?_
                  refine lv_sipush (v := 255) hx hb dX5_alu_237 (by decide) ?_
                  refine lv_iand hx hb dX5_alu_240 ?_
                  refine pu_R_a2 hx hb hK hP hD hS (by unfold vp_in; decide) dX5_alu_241 (fun H locs hP hD hS => ?_)
                  have hF : rAlu f a p1 p2 = (rSigns (upd (upd f 14 (1 : Int32)) 16 (1 : Int32)) a (((((a 2) (7 : Int32).toNatClampNeg) - p2) - (f 16)) &&& (255 : Int32)), ua a 2 (upd (a 2) (7 : Int32).toNatClampNeg (((((a 2) (7 : Int32).toNatClampNeg) - p2) - (f 16)) &&& (255 : Int32)))) := by simp only [rAlu, if_pos c_1, if_pos c_2, if_neg c_3, if_neg c_11, if_pos c_19, if_neg c_31, if_neg c_35, if_neg c_37]
                  rw [hF]
                  exact KC.retv hx hb hr hlocks hK hP hD hS dX5_alu_242
    · refine lv_iload_n hx hb dX5_alu_36 rfl (lv_at hl 2 rfl) ?_
      refine lv_iload_n hx hb dX5_alu_37 rfl (lv_at hl 5 rfl) ?_
      refine lv_iadd hx hb dX5_alu_38 ?_
      refine lv_iload hx hb dX5_alu_39 (lv_at hl 1 rfl) ?_
      refine lv_iadd hx hb dX5_alu_41 ?_
      refine lv_istore (lv' := [(5, .int _), (4, .int _), (3, .int _), (0, .ref _), (1, .int _), (2, .int _)]) hx hb dX5_alu_42 hl (by decide) rfl (fun ls hl => ?_)
      refine lv_aload_n hx hb dX5_alu_44 rfl (lv_at hl 3 rfl) ?_
      refine lv_iload_n hx hb dX5_alu_45 rfl (lv_at hl 2 rfl) ?_
      refine lv_bipush (v := 15) hx hb dX5_alu_46 (by decide) ?_
      refine lv_iand hx hb dX5_alu_48 ?_
      refine lv_iload_n hx hb dX5_alu_49 rfl (lv_at hl 5 rfl) ?_
      refine lv_bipush (v := 15) hx hb dX5_alu_50 (by decide) ?_
      refine lv_iand hx hb dX5_alu_52 ?_
      refine lv_iadd hx hb dX5_alu_53 ?_
      refine lv_iload hx hb dX5_alu_54 (lv_at hl 1 rfl) ?_
      refine lv_iadd hx hb dX5_alu_56 ?_
      refine lv_bipush (v := 15) hx hb dX5_alu_57 (by decide) ?_
      refine lv_icmp_le (tgt := 66) hx hb dX5_alu_59 (by decide) (fun c_38 => ?_) (fun c_38 => ?_)
      · refine lv_iconst (v := 0) hx hb dX5_alu_66 (by decide) ?_
        refine pu_R_f14 (v := (0 : Int32)) hx hb hts hi5 hown hK hP hD hS (hts (.fieldLink RX5 63 "InvaderBoardModel" "half" "I") (by decide +kernel)) dX5_alu_67 (fun H locs hP hD hS => ?_)
        refine lv_aload_n hx hb dX5_alu_70 rfl (lv_at hl 3 rfl) ?_
        refine lv_iload hx hb dX5_alu_71 (lv_at hl 0 rfl) ?_
        refine lv_sipush (v := 255) hx hb dX5_alu_73 (by decide) ?_
        refine lv_icmp_le (tgt := 83) hx hb dX5_alu_76 (by decide) (fun c_39 => ?_) (fun c_39 => ?_)
        · refine lv_iconst (v := 0) hx hb dX5_alu_83 (by decide) ?_
          refine pu_R_f16 (v := (0 : Int32)) hx hb hts hi5 hown hK hP hD hS (hts (.fieldLink RX5 66 "InvaderBoardModel" "carry" "I") (by decide +kernel)) dX5_alu_84 (fun H locs hP hD hS => ?_)
          refine lv_goto (tgt := 213) hx hb dX5_alu_87 (by decide) ?_
          refine lv_aload_n hx hb dX5_alu_213 rfl (lv_at hl 3 rfl) ?_
          refine lv_iload hx hb dX5_alu_214 (lv_at hl 0 rfl) ?_
          refine lv_sipush (v := 255) hx hb dX5_alu_216 (by decide) ?_
          refine lv_iand hx hb dX5_alu_219 ?_
          refine KC.callv (ci := 5) (rest := []) (wt := wR cI o (rSigns (upd (upd f 14 (0 : Int32)) 16 (0 : Int32)) a (((((a 2) (7 : Int32).toNatClampNeg) + p2) + (f 16)) &&& (255 : Int32))) a) (kX5_signs l D cI o (upd (upd f 14 (0 : Int32)) 16 (0 : Int32)) a (((((a 2) (7 : Int32).toNatClampNeg) + p2) + (f 16)) &&& (255 : Int32))) (cwV 1 hts gX5_alu_X5_signs rfl rfl rfl (by decide +kernel) ⟨Nat.le_of_ble_eq_true rfl, Nat.le_of_ble_eq_true rfl⟩) ⟨hx, hb, hml, hown, hts⟩ hK hP hD hS hA rfl rfl rfl [0, 1, 2, 3, 4, 5, 6] [] [0, 1, 2, 3, 4, 5, 6] (by decide) rfl (wr := []) rfl (by decide) (by decide) (by decide) rfl rfl hl.1 rfl (Nat.le_of_ble_eq_true rfl) dX5_alu_220 ⟨Nat.zero_le _, Nat.zero_le _⟩ (fun H locs hP hD hS => ?_)
          refine lv_iload_n hx hb dX5_alu_223 rfl (lv_at hl 4 rfl) ?_
          refine lv_bipush (v := 7) hx hb dX5_alu_224 (by decide) ?_
          refine lv_icmp_ge (tgt := 242) hx hb dX5_alu_226 (by decide) (fun c_40 => ?_) (fun c_40 => ?_)
          · have hF : rAlu f a p1 p2 = (rSigns (upd (upd f 14 (0 : Int32)) 16 (0 : Int32)) a (((((a 2) (7 : Int32).toNatClampNeg) + p2) + (f 16)) &&& (255 : Int32)), a) := by simp only [rAlu, if_pos c_1, if_neg c_2, if_pos c_38, if_pos c_39, if_pos c_40]
            rw [hF]
            exact KC.retv hx hb hr hlocks hK hP hD hS dX5_alu_242
          · refine lv_aload_n hx hb dX5_alu_229 rfl (lv_at hl 3 rfl) ?_
            refine va_get (ci := 5) (v := .ref (o 23)) (C := RX5) (T := TX5) (N := 24) hx hb hts hi5 hown hK hP 0 rfl rfl 3 (by decide) (hts (.fieldLink RX5 16 "InvaderBoardModel" "reg" "[I") (by decide +kernel)) (fun _ h9 => h9) rfl dX5_alu_230 ?_
            refine lv_bipush (v := 7) hx hb dX5_alu_233 (by decide) ?_
            refine lv_iload hx hb dX5_alu_235 (lv_at hl 0 rfl) ?_
            refine lv_sipush (v := 255) hx hb dX5_alu_237 (by decide) ?_
            refine lv_iand hx hb dX5_alu_240 ?_
            refine pu_R_a2 hx hb hK hP hD hS (by unfold vp_in; decide) dX5_alu_241 (fun H locs hP hD hS => ?_)
            have hF : rAlu f a p1 p2 = (rSigns (upd (upd f 14 (0 : Int32)) 16 (0 : Int32)) a (((((a 2) (7 : Int32).toNatClampNeg) + p2) + (f 16)) &&& (255 : Int32)), ua a 2 (upd (a 2) (7 : Int32).toNatClampNeg (((((a 2) (7 : Int32).toNatClampNeg) + p2) + (f 16)) &&& (255 : Int32)))) := by simp only [rAlu, if_pos c_1, if_neg c_2, if_pos c_38, if_pos c_39, if_neg c_40]
            rw [hF]
            exact KC.retv hx hb hr hlocks hK hP hD hS dX5_alu_242
        · refine lv_iconst (v := 1) hx hb dX5_alu_79 (by decide) ?_
          refine lv_goto (tgt := 84) hx hb dX5_alu_80 (by decide) ?_
          refine pu_R_f16 (v := (1 : Int32)) hx hb hts hi5 hown hK hP hD hS (hts (.fieldLink RX5 66 "InvaderBoardModel" "carry" "I") (by decide +kernel)) dX5_alu_84 (fun H locs hP hD hS => ?_)
          refine lv_goto (tgt := 213) hx hb dX5_alu_87 (by decide) ?_
          refine lv_aload_n hx hb dX5_alu_213 rfl (lv_at hl 3 rfl) ?_
          refine lv_iload hx hb dX5_alu_214 (lv_at hl 0 rfl) ?_
          refine lv_sipush (v := 255) hx hb dX5_alu_216 (by decide) ?_
          refine lv_iand hx hb dX5_alu_219 ?_
          refine KC.callv (ci := 5) (rest := []) (wt := wR cI o (rSigns (upd (upd f 14 (0 : Int32)) 16 (1 : Int32)) a (((((a 2) (7 : Int32).toNatClampNeg) + p2) + (f 16)) &&& (255 : Int32))) a) (kX5_signs l D cI o (upd (upd f 14 (0 : Int32)) 16 (1 : Int32)) a (((((a 2) (7 : Int32).toNatClampNeg) + p2) + (f 16)) &&& (255 : Int32))) (cwV 1 hts gX5_alu_X5_signs rfl rfl rfl (by decide +kernel) ⟨Nat.le_of_ble_eq_true rfl, Nat.le_of_ble_eq_true rfl⟩) ⟨hx, hb, hml, hown, hts⟩ hK hP hD hS hA rfl rfl rfl [0, 1, 2, 3, 4, 5, 6] [] [0, 1, 2, 3, 4, 5, 6] (by decide) rfl (wr := []) rfl (by decide) (by decide) (by decide) rfl rfl hl.1 rfl (Nat.le_of_ble_eq_true rfl) dX5_alu_220 ⟨Nat.zero_le _, Nat.zero_le _⟩ (fun H locs hP hD hS => ?_)
          refine lv_iload_n hx hb dX5_alu_223 rfl (lv_at hl 4 rfl) ?_
          refine lv_bipush (v := 7) hx hb dX5_alu_224 (by decide) ?_
          refine lv_icmp_ge (tgt := 242) hx hb dX5_alu_226 (by decide) (fun c_41 => ?_) (fun c_41 => ?_)
          · have hF : rAlu f a p1 p2 = (rSigns (upd (upd f 14 (0 : Int32)) 16 (1 : Int32)) a (((((a 2) (7 : Int32).toNatClampNeg) + p2) + (f 16)) &&& (255 : Int32)), a) := by simp only [rAlu, if_pos c_1, if_neg c_2, if_pos c_38, if_neg c_39, if_pos c_41]
            rw [hF]
            exact KC.retv hx hb hr hlocks hK hP hD hS dX5_alu_242
          · refine lv_aload_n hx hb dX5_alu_229 rfl (lv_at hl 3 rfl) ?_
            refine va_get (ci := 5) (v := .ref (o 23)) (C := RX5) (T := TX5) (N := 24) hx hb hts hi5 hown hK hP 0 rfl rfl 3 (by decide) (hts (.fieldLink RX5 16 "InvaderBoardModel" "reg" "[I") (by decide +kernel)) (fun _ h9 => h9) rfl dX5_alu_230 ?_
            refine lv_bipush (v := 7) hx hb dX5_alu_233 (by decide) ?_
            refine lv_iload hx hb dX5_alu_235 (lv_at hl 0 rfl) ?_
            refine lv_sipush (v := 255) hx hb dX5_alu_237 (by decide) ?_
            refine lv_iand hx hb dX5_alu_240 ?_
            refine pu_R_a2 hx hb hK hP hD hS (by unfold vp_in; decide) dX5_alu_241 (fun H locs hP hD hS => ?_)
            have hF : rAlu f a p1 p2 = (rSigns (upd (upd f 14 (0 : Int32)) 16 (1 : Int32)) a (((((a 2) (7 : Int32).toNatClampNeg) + p2) + (f 16)) &&& (255 : Int32)), ua a 2 (upd (a 2) (7 : Int32).toNatClampNeg (((((a 2) (7 : Int32).toNatClampNeg) + p2) + (f 16)) &&& (255 : Int32)))) := by simp only [rAlu, if_pos c_1, if_neg c_2, if_pos c_38, if_neg c_39, if_neg c_41]
            rw [hF]
            exact KC.retv hx hb hr hlocks hK hP hD hS dX5_alu_242
      · refine lv_iconst (v := 1) hx hb dX5_alu_62 (by decide) ?_
        refine lv_goto (tgt := 67) hx hb dX5_alu_63 (by decide) ?_
        refine pu_R_f14 (v := (1 : Int32)) hx hb hts hi5 hown hK hP hD hS (hts (.fieldLink RX5 63 "InvaderBoardModel" "half" "I") (by decide +kernel)) dX5_alu_67 (fun H locs hP hD hS => ?_)
        refine lv_aload_n hx hb dX5_alu_70 rfl (lv_at hl 3 rfl) ?_
        refine lv_iload hx hb dX5_alu_71 (lv_at hl 0 rfl) ?_
        refine lv_sipush (v := 255) hx hb dX5_alu_73 (by decide) ?_
        refine lv_icmp_le (tgt := 83) hx hb dX5_alu_76 (by decide) (fun c_42 => ?_) (fun c_42 => ?_)
        · refine lv_iconst (v := 0) hx hb dX5_alu_83 (by decide) ?_
          refine pu_R_f16 (v := (0 : Int32)) hx hb hts hi5 hown hK hP hD hS (hts (.fieldLink RX5 66 "InvaderBoardModel" "carry" "I") (by decide +kernel)) dX5_alu_84 (fun H locs hP hD hS => ?_)
          refine lv_goto (tgt := 213) hx hb dX5_alu_87 (by decide) ?_
          refine lv_aload_n hx hb dX5_alu_213 rfl (lv_at hl 3 rfl) ?_
          refine lv_iload hx hb dX5_alu_214 (lv_at hl 0 rfl) ?_
          refine lv_sipush (v := 255) hx hb dX5_alu_216 (by decide) ?_
          refine lv_iand hx hb dX5_alu_219 ?_
          refine KC.callv (ci := 5) (rest := []) (wt := wR cI o (rSigns (upd (upd f 14 (1 : Int32)) 16 (0 : Int32)) a (((((a 2) (7 : Int32).toNatClampNeg) + p2) + (f 16)) &&& (255 : Int32))) a) (kX5_signs l D cI o (upd (upd f 14 (1 : Int32)) 16 (0 : Int32)) a (((((a 2) (7 : Int32).toNatClampNeg) + p2) + (f 16)) &&& (255 : Int32))) (cwV 1 hts gX5_alu_X5_signs rfl rfl rfl (by decide +kernel) ⟨Nat.le_of_ble_eq_true rfl, Nat.le_of_ble_eq_true rfl⟩) ⟨hx, hb, hml, hown, hts⟩ hK hP hD hS hA rfl rfl rfl [0, 1, 2, 3, 4, 5, 6] [] [0, 1, 2, 3, 4, 5, 6] (by decide) rfl (wr := []) rfl (by decide) (by decide) (by decide) rfl rfl hl.1 rfl (Nat.le_of_ble_eq_true rfl) dX5_alu_220 ⟨Nat.zero_le _, Nat.zero_le _⟩ (fun H locs hP hD hS => ?_)
          refine lv_iload_n hx hb dX5_alu_223 rfl (lv_at hl 4 rfl) ?_
          refine lv_bipush (v := 7) hx hb dX5_alu_224 (by decide) ?_
          refine lv_icmp_ge (tgt := 242) hx hb dX5_alu_226 (by decide) (fun c_43 => ?_) (fun c_43 => ?_)
          · have hF : rAlu f a p1 p2 = (rSigns (upd (upd f 14 (1 : Int32)) 16 (0 : Int32)) a (((((a 2) (7 : Int32).toNatClampNeg) + p2) + (f 16)) &&& (255 : Int32)), a) := by simp only [rAlu, if_pos c_1, if_neg c_2, if_neg c_38, if_pos c_42, if_pos c_43]
            rw [hF]
            exact KC.retv hx hb hr hlocks hK hP hD hS dX5_alu_242
          · refine lv_aload_n hx hb dX5_alu_229 rfl (lv_at hl 3 rfl) ?_
            refine va_get (ci := 5) (v := .ref (o 23)) (C := RX5) (T := TX5) (N := 24) hx hb hts hi5 hown hK hP 0 rfl rfl 3 (by decide) (hts (.fieldLink RX5 16 "InvaderBoardModel" "reg" "[I") (by decide +kernel)) (fun _ h9 => h9) rfl dX5_alu_230 ?_
            refine lv_bipush (v := 7) hx hb dX5_alu_233 (by decide) ?_
            refine lv_iload hx hb dX5_alu_235 (lv_at hl 0 rfl) ?_
            refine lv_sipush (v := 255) hx hb dX5_alu_237 (by decide) ?_
            refine lv_iand hx hb dX5_alu_240 ?_
            refine pu_R_a2 hx hb hK hP hD hS (by unfold vp_in; decide) dX5_alu_241 (fun H locs hP hD hS => ?_)
            have hF : rAlu f a p1 p2 = (rSigns (upd (upd f 14 (1 : Int32)) 16 (0 : Int32)) a (((((a 2) (7 : Int32).toNatClampNeg) + p2) + (f 16)) &&& (255 : Int32)), ua a 2 (upd (a 2) (7 : Int32).toNatClampNeg (((((a 2) (7 : Int32).toNatClampNeg) + p2) + (f 16)) &&& (255 : Int32)))) := by simp only [rAlu, if_pos c_1, if_neg c_2, if_neg c_38, if_pos c_42, if_neg c_43]
            rw [hF]
            exact KC.retv hx hb hr hlocks hK hP hD hS dX5_alu_242
        · refine lv_iconst (v := 1) hx hb dX5_alu_79 (by decide) ?_
          refine lv_goto (tgt := 84) hx hb dX5_alu_80 (by decide) ?_
          refine pu_R_f16 (v := (1 : Int32)) hx hb hts hi5 hown hK hP hD hS (hts (.fieldLink RX5 66 "InvaderBoardModel" "carry" "I") (by decide +kernel)) dX5_alu_84 (fun H locs hP hD hS => ?_)
          refine lv_goto (tgt := 213) hx hb dX5_alu_87 (by decide) ?_
          refine lv_aload_n hx hb dX5_alu_213 rfl (lv_at hl 3 rfl) ?_
          refine lv_iload hx hb dX5_alu_214 (lv_at hl 0 rfl) ?_
          refine lv_sipush (v := 255) hx hb dX5_alu_216 (by decide) ?_
          refine lv_iand hx hb dX5_alu_219 ?_
          refine KC.callv (ci := 5) (rest := []) (wt := wR cI o (rSigns (upd (upd f 14 (1 : Int32)) 16 (1 : Int32)) a (((((a 2) (7 : Int32).toNatClampNeg) + p2) + (f 16)) &&& (255 : Int32))) a) (kX5_signs l D cI o (upd (upd f 14 (1 : Int32)) 16 (1 : Int32)) a (((((a 2) (7 : Int32).toNatClampNeg) + p2) + (f 16)) &&& (255 : Int32))) (cwV 1 hts gX5_alu_X5_signs rfl rfl rfl (by decide +kernel) ⟨Nat.le_of_ble_eq_true rfl, Nat.le_of_ble_eq_true rfl⟩) ⟨hx, hb, hml, hown, hts⟩ hK hP hD hS hA rfl rfl rfl [0, 1, 2, 3, 4, 5, 6] [] [0, 1, 2, 3, 4, 5, 6] (by decide) rfl (wr := []) rfl (by decide) (by decide) (by decide) rfl rfl hl.1 rfl (Nat.le_of_ble_eq_true rfl) dX5_alu_220 ⟨Nat.zero_le _, Nat.zero_le _⟩ (fun H locs hP hD hS => ?_)
          refine lv_iload_n hx hb dX5_alu_223 rfl (lv_at hl 4 rfl) ?_
          refine lv_bipush (v := 7) hx hb dX5_alu_224 (by decide) ?_
          refine lv_icmp_ge (tgt := 242) hx hb dX5_alu_226 (by decide) (fun c_44 => ?_) (fun c_44 => ?_)
          · have hF : rAlu f a p1 p2 = (rSigns (upd (upd f 14 (1 : Int32)) 16 (1 : Int32)) a (((((a 2) (7 : Int32).toNatClampNeg) + p2) + (f 16)) &&& (255 : Int32)), a) := by simp only [rAlu, if_pos c_1, if_neg c_2, if_neg c_38, if_neg c_42, if_pos c_44]
            rw [hF]
            exact KC.retv hx hb hr hlocks hK hP hD hS dX5_alu_242
          · refine lv_aload_n hx hb dX5_alu_229 rfl (lv_at hl 3 rfl) ?_
            refine va_get (ci := 5) (v := .ref (o 23)) (C := RX5) (T := TX5) (N := 24) hx hb hts hi5 hown hK hP 0 rfl rfl 3 (by decide) (hts (.fieldLink RX5 16 "InvaderBoardModel" "reg" "[I") (by decide +kernel)) (fun _ h9 => h9) rfl dX5_alu_230 ?_
            refine lv_bipush (v := 7) hx hb dX5_alu_233 (by decide) ?_
            refine lv_iload hx hb dX5_alu_235 (lv_at hl 0 rfl) ?_
            refine lv_sipush (v := 255) hx hb dX5_alu_237 (by decide) ?_
            refine lv_iand hx hb dX5_alu_240 ?_
            refine pu_R_a2 hx hb hK hP hD hS (by unfold vp_in; decide) dX5_alu_241 (fun H locs hP hD hS => ?_)
            have hF : rAlu f a p1 p2 = (rSigns (upd (upd f 14 (1 : Int32)) 16 (1 : Int32)) a (((((a 2) (7 : Int32).toNatClampNeg) + p2) + (f 16)) &&& (255 : Int32)), ua a 2 (upd (a 2) (7 : Int32).toNatClampNeg (((((a 2) (7 : Int32).toNatClampNeg) + p2) + (f 16)) &&& (255 : Int32)))) := by simp only [rAlu, if_pos c_1, if_neg c_2, if_neg c_38, if_neg c_42, if_neg c_44]
            rw [hF]
            exact KC.retv hx hb hr hlocks hK hP hD hS dX5_alu_242
  · refine lv_iload_n hx hb dX5_alu_13 rfl (lv_at hl 2 rfl) ?_
    refine lv_iconst (v := 3) hx hb dX5_alu_14 (by decide) ?_
    refine lv_icmp_ne (tgt := 25) hx hb dX5_alu_15 (by decide) (fun c_45 => ?_) (fun c_45 => ?_)
    · refine lv_iconst (v := 0) hx hb dX5_alu_25 (by decide) ?_
      refine lv_istore (lv' := [(4, .int _), (3, .int _), (0, .ref _), (1, .int _), (2, .int _)]) hx hb dX5_alu_26 hl (by decide) rfl (fun ls hl => ?_)
      refine lv_iload_n hx hb dX5_alu_28 rfl (lv_at hl 1 rfl) ?_
      refine lv_istore (lv' := [(5, .int _), (4, .int _), (3, .int _), (0, .ref _), (1, .int _), (2, .int _)]) hx hb dX5_alu_29 hl (by decide) rfl (fun ls hl => ?_)
      refine lv_iload_n hx hb dX5_alu_31 rfl (lv_at hl 4 rfl) ?_
      refine lv_iconst (v := 2) hx hb dX5_alu_32 (by decide) ?_
      refine lv_icmp_ge (tgt := 90) hx hb dX5_alu_33 (by decide) (fun c_46 => ?_) (fun c_46 => ?_)
      · refine lv_iload_n hx hb dX5_alu_90 rfl (lv_at hl 4 rfl) ?_
        refine lv_iconst (v := 2) hx hb dX5_alu_91 (by decide) ?_
        refine lv_icmp_eq (tgt := 106) hx hb dX5_alu_92 (by decide) (fun c_47 => ?_) (fun c_47 => ?_)
        · refine lv_iload_n hx hb dX5_alu_106 rfl (lv_at hl 2 rfl) ?_
          refine lv_iload_n hx hb dX5_alu_107 rfl (lv_at hl 5 rfl) ?_
          refine lv_isub hx hb dX5_alu_108 ?_
          refine lv_iload hx hb dX5_alu_109 (lv_at hl 1 rfl) ?_
          refine lv_isub hx hb dX5_alu_111 ?_
          refine lv_istore (lv' := [(5, .int _), (4, .int _), (3, .int _), (0, .ref _), (1, .int _), (2, .int _)]) hx hb dX5_alu_112 hl (by decide) rfl (fun ls hl => ?_)
          refine lv_aload_n hx hb dX5_alu_114 rfl (lv_at hl 3 rfl) ?_
          refine lv_iload_n hx hb dX5_alu_115 rfl (lv_at hl 2 rfl) ?_
          refine lv_bipush (v := 15) hx hb dX5_alu_116 (by decide) ?_
          refine lv_iand hx hb dX5_alu_118 ?_
          refine lv_iload_n hx hb dX5_alu_119 rfl (lv_at hl 5 rfl) ?_
          refine lv_iconst (v := -1) hx hb dX5_alu_120 (by decide) ?_
          refine lv_ixor hx hb dX5_alu_121 ?_
          refine lv_bipush (v := 15) hx hb dX5_alu_122 (by decide) ?_
          refine lv_iand hx hb dX5_alu_124 ?_
          refine lv_iadd hx hb dX5_alu_125 ?_
          refine lv_iconst (v := 1) hx hb dX5_alu_126 (by decide) ?_
          refine lv_iadd hx hb dX5_alu_127 ?_
          refine lv_iload hx hb dX5_alu_128 (lv_at hl 1 rfl) ?_
          refine lv_isub hx hb dX5_alu_130 ?_
          refine lv_bipush (v := 15) hx hb dX5_alu_131 (by decide) ?_
          refine lv_icmp_le (tgt := 140) hx hb dX5_alu_133 (by decide) (fun c_48 => ?_) (fun c_48 => ?_)
          · refine lv_iconst (v := 0) hx hb dX5_alu_140 (by decide) ?_
            refine pu_R_f14 (v := (0 : Int32)) hx hb hts hi5 hown hK hP hD hS (hts (.fieldLink RX5 63 "InvaderBoardModel" "half" "I") (by decide +kernel)) dX5_alu_141 (fun H locs hP hD hS => ?_)
            refine lv_aload_n hx hb dX5_alu_144 rfl (lv_at hl 3 rfl) ?_
            refine lv_iload hx hb dX5_alu_145 (lv_at hl 0 rfl) ?_
            refine lv_if_ge (tgt := 154) hx hb dX5_alu_147 (by decide) (fun c_49 => ?_) (fun c_49 => ?_)
            · refine lv_iconst (v := 0) hx hb dX5_alu_154 (by decide) ?_
              refine pu_R_f16 (v := (0 : Int32)) hx hb hts hi5 hown hK hP hD hS (hts (.fieldLink RX5 66 "InvaderBoardModel" "carry" "I") (by decide +kernel)) dX5_alu_155 (fun H locs hP hD hS => ?_)
              refine lv_goto (tgt := 213) hx hb dX5_alu_158 (by decide) ?_
              refine lv_aload_n hx hb dX5_alu_213 rfl (lv_at hl 3 rfl) ?_
              refine lv_iload hx hb dX5_alu_214 (lv_at hl 0 rfl) ?_
              refine lv_sipush (v := 255) hx hb dX5_alu_216 (by decide) ?_
              refine lv_iand hx hb dX5_alu_219 ?_
              refine KC.callv (ci := 5) (rest := []) (wt := wR cI o (rSigns (upd (upd f 14 (0 : Int32)) 16 (0 : Int32)) a (((((a 2) (7 : Int32).toNatClampNeg) - p2) - (0 : Int32)) &&& (255 : Int32))) a) (kX5_signs l D cI o (upd (upd f 14 (0 : Int32)) 16 (0 : Int32)) a (((((a 2) (7 : Int32).toNatClampNeg) - p2) - (0 : Int32)) &&& (255 : Int32))) (cwV 1 hts gX5_alu_X5_signs rfl rfl rfl (by decide +kernel) ⟨Nat.le_of_ble_eq_true rfl, Nat.le_of_ble_eq_true rfl⟩) ⟨hx, hb, hml, hown, hts⟩ hK hP hD hS hA rfl rfl rfl [0, 1, 2, 3, 4, 5, 6] [] [0, 1, 2, 3, 4, 5, 6] (by decide) rfl (wr := []) rfl (by decide) (by decide) (by decide) rfl rfl hl.1 rfl (Nat.le_of_ble_eq_true rfl) dX5_alu_220 ⟨Nat.zero_le _, Nat.zero_le _⟩ (fun H locs hP hD hS => ?_)
              refine lv_iload_n hx hb dX5_alu_223 rfl (lv_at hl 4 rfl) ?_
              refine lv_bipush (v := 7) hx hb dX5_alu_224 (by decide) ?_
              refine lv_icmp_ge (tgt := 242) hx hb dX5_alu_226 (by decide) (fun c_50 => ?_) (fun c_50 => ?_)
              · have hF : rAlu f a p1 p2 = (rSigns (upd (upd f 14 (0 : Int32)) 16 (0 : Int32)) a (((((a 2) (7 : Int32).toNatClampNeg) - p2) - (0 : Int32)) &&& (255 : Int32)), a) := by simp only [rAlu, if_neg c_1, if_neg c_45, if_pos c_46, if_pos c_47, if_pos c_48, if_pos c_49, if_pos c_50]
                rw [hF]
                exact KC.retv hx hb hr hlocks hK hP hD hS dX5_alu_242
              · refine lv_aload_n hx hb dX5_alu_229 rfl (lv_at hl 3 rfl) ?_
                refine va_get (ci := 5) (v := .ref (o 23)) (C := RX5) (T := TX5) (N := 24) hx hb hts hi5 hown hK hP 0 rfl rfl 3 (by decide) (hts (.fieldLink RX5 16 "InvaderBoardModel" "reg" "[I") (by decide +kernel)) (fun _ h9 => h9) rfl dX5_alu_230 ?_
                refine lv_bipush (v := 7) hx hb dX5_alu_233 (by decide) ?_
                refine lv_iload hx hb dX5_alu_235 (lv_at hl 0 rfl) ?_
                refine lv_sipush (v := 255) hx hb dX5_alu_237 (by decide) ?_
                refine lv_iand hx hb dX5_alu_240 ?_
                refine pu_R_a2 hx hb hK hP hD hS (by unfold vp_in; decide) dX5_alu_241 (fun H locs hP hD hS => ?_)
                have hF : rAlu f a p1 p2 = (rSigns (upd (upd f 14 (0 : Int32)) 16 (0 : Int32)) a (((((a 2) (7 : Int32).toNatClampNeg) - p2) - (0 : Int32)) &&& (255 : Int32)), ua a 2 (upd (a 2) (7 : Int32).toNatClampNeg (((((a 2) (7 : Int32).toNatClampNeg) - p2) - (0 : Int32)) &&& (255 : Int32)))) := by simp only [rAlu, if_neg c_1, if_neg c_45, if_pos c_46, if_pos c_47, if_pos c_48, if_pos c_49, if_neg c_50]
                rw [hF]
                exact KC.retv hx hb hr hlocks hK hP hD hS dX5_alu_242
            · refine lv_iconst (v := 1) hx hb dX5_alu_150 (by decide) ?_
              refine lv_goto (tgt := 155) hx hb dX5_alu_151 (by decide) ?_
              refine pu_R_f16 (v := (1 : Int32)) hx hb hts hi5 hown hK hP hD hS (hts (.fieldLink RX5 66 "InvaderBoardModel" "carry" "I") (by decide +kernel)) dX5_alu_155 (fun H locs hP hD hS => ?_)
              refine lv_goto (tgt := 213) hx hb dX5_alu_158 (by decide) ?_
              refine lv_aload_n hx hb dX5_alu_213 rfl (lv_at hl 3 rfl) ?_
              refine lv_iload hx hb dX5_alu_214 (lv_at hl 0 rfl) ?_
              refine lv_sipush (v := 255) hx hb dX5_alu_216 (by decide) ?_
              refine lv_iand hx hb dX5_alu_219 ?_
              refine KC.callv (ci := 5) (rest := []) (wt := wR cI o (rSigns (upd (upd f 14 (0 : Int32)) 16 (1 : Int32)) a (((((a 2) (7 : Int32).toNatClampNeg) - p2) - (0 : Int32)) &&& (255 : Int32))) a) (kX5_signs l D cI o (upd (upd f 14 (0 : Int32)) 16 (1 : Int32)) a (((((a 2) (7 : Int32).toNatClampNeg) - p2) - (0 : Int32)) &&& (255 : Int32))) (cwV 1 hts gX5_alu_X5_signs rfl rfl rfl (by decide +kernel) ⟨Nat.le_of_ble_eq_true rfl, Nat.le_of_ble_eq_true rfl⟩) ⟨hx, hb, hml, hown, hts⟩ hK hP hD hS hA rfl rfl rfl [0, 1, 2, 3, 4, 5, 6] [] [0, 1, 2, 3, 4, 5, 6] (by decide) rfl (wr := []) rfl (by decide) (by decide) (by decide) rfl rfl hl.1 rfl (Nat.le_of_ble_eq_true rfl) dX5_alu_220 ⟨Nat.zero_le _, Nat.zero_le _⟩ (fun H locs hP hD hS => ?_)
              refine lv_iload_n hx hb dX5_alu_223 rfl (lv_at hl 4 rfl) ?_
              refine lv_bipush (v := 7) hx hb dX5_alu_224 (by decide) ?_
              refine lv_icmp_ge (tgt := 242) hx hb dX5_alu_226 (by decide) (fun c_51 => ?_) (fun c_51 => ?_)
              · have hF : rAlu f a p1 p2 = (rSigns (upd (upd f 14 (0 : Int32)) 16 (1 : Int32)) a (((((a 2) (7 : Int32).toNatClampNeg) - p2) - (0 : Int32)) &&& (255 : Int32)), a) := by simp only [rAlu, if_neg c_1, if_neg c_45, if_pos c_46, if_pos c_47, if_pos c_48, if_neg c_49, if_pos c_51]
                rw [hF]
                exact KC.retv hx hb hr hlocks hK hP hD hS dX5_alu_242
              · refine lv_aload_n hx hb dX5_alu_229 rfl (lv_at hl 3 rfl) ?_
                refine va_get (ci := 5) (v := .ref (o 23)) (C := RX5) (T := TX5) (N := 24) hx hb hts hi5 hown hK hP 0 rfl rfl 3 (by decide) (hts (.fieldLink RX5 16 "InvaderBoardModel" "reg" "[I") (by decide +kernel)) (fun _ h9 => h9) rfl dX5_alu_230 ?_
                refine lv_bipush (v := 7) hx hb dX5_alu_233 (by decide) ?_
                refine lv_iload hx hb dX5_alu_235 (lv_at hl 0 rfl) ?_
                refine lv_sipush (v := 255) hx hb dX5_alu_237 (by decide) ?_
                refine lv_iand hx hb dX5_alu_240 ?_
                refine pu_R_a2 hx hb hK hP hD hS (by unfold vp_in; decide) dX5_alu_241 (fun H locs hP hD hS => ?_)
                have hF : rAlu f a p1 p2 = (rSigns (upd (upd f 14 (0 : Int32)) 16 (1 : Int32)) a (((((a 2) (7 : Int32).toNatClampNeg) - p2) - (0 : Int32)) &&& (255 : Int32)), ua a 2 (upd (a 2) (7 : Int32).toNatClampNeg (((((a 2) (7 : Int32).toNatClampNeg) - p2) - (0 : Int32)) &&& (255 : Int32)))) := by simp only [rAlu, if_neg c_1, if_neg c_45, if_pos c_46, if_pos c_47, if_pos c_48, if_neg c_49, if_neg c_51]
                rw [hF]
                exact KC.retv hx hb hr hlocks hK hP hD hS dX5_alu_242
          · refine lv_iconst (v := 1) hx hb dX5_alu_136 (by decide) ?_
            refine lv_goto (tgt := 141) hx hb dX5_alu_137 (by decide) ?_
            refine pu_R_f14 (v := (1 : Int32)) hx hb hts hi5 hown hK hP hD hS (hts (.fieldLink RX5 63 "InvaderBoardModel" "half" "I") (by decide +kernel)) dX5_alu_141 (fun H locs hP hD hS => ?_)
            refine lv_aload_n hx hb dX5_alu_144 rfl (lv_at hl 3 rfl) ?_
            refine lv_iload hx hb dX5_alu_145 (lv_at hl 0 rfl) ?_
            refine lv_if_ge (tgt := 154) hx hb dX5_alu_147 (by decide) (fun c_52 => ?_) (fun c_52 => ?_)
            · refine lv_iconst (v := 0) hx hb dX5_alu_154 (by decide) ?_
              refine pu_R_f16 (v := (0 : Int32)) hx hb hts hi5 hown hK hP hD hS (hts (.fieldLink RX5 66 "InvaderBoardModel" "carry" "I") (by decide +kernel)) dX5_alu_155 (fun H locs hP hD hS => ?_)
              refine lv_goto (tgt := 213) hx hb dX5_alu_158 (by decide) ?_
              refine lv_aload_n hx hb dX5_alu_213 rfl (lv_at hl 3 rfl) ?_
              refine lv_iload hx hb dX5_alu_214 (lv_at hl 0 rfl) ?_
              refine lv_sipush (v := 255) hx hb dX5_alu_216 (by decide) ?_
              refine lv_iand hx hb dX5_alu_219 ?_
              refine KC.callv (ci := 5) (rest := []) (wt := wR cI o (rSigns (upd (upd f 14 (1 : Int32)) 16 (0 : Int32)) a (((((a 2) (7 : Int32).toNatClampNeg) - p2) - (0 : Int32)) &&& (255 : Int32))) a) (kX5_signs l D cI o (upd (upd f 14 (1 : Int32)) 16 (0 : Int32)) a (((((a 2) (7 : Int32).toNatClampNeg) - p2) - (0 : Int32)) &&& (255 : Int32))) (cwV 1 hts gX5_alu_X5_signs rfl rfl rfl (by decide +kernel) ⟨Nat.le_of_ble_eq_true rfl, Nat.le_of_ble_eq_true rfl⟩) ⟨hx, hb, hml, hown, hts⟩ hK hP hD hS hA rfl rfl rfl [0, 1, 2, 3, 4, 5, 6] [] [0, 1, 2, 3, 4, 5, 6] (by decide) rfl (wr := []) rfl (by decide) (by decide) (by decide) rfl rfl hl.1 rfl (Nat.le_of_ble_eq_true rfl) dX5_alu_220 ⟨Nat.zero_le _, Nat.zero_le _⟩ (fun H locs hP hD hS => ?_)
              refine lv_iload_n hx hb dX5_alu_223 rfl (lv_at hl 4 rfl) ?_
              refine lv_bipush (v := 7) hx hb dX5_alu_224 (by decide) ?_
              refine lv_icmp_ge (tgt := 242) hx hb dX5_alu_226 (by decide) (fun c_53 => ?_) (fun c_53 => ?_)
              · have hF : rAlu f a p1 p2 = (rSigns (upd (upd f 14 (1 : Int32)) 16 (0 : Int32)) a (((((a 2) (7 : Int32).toNatClampNeg) - p2) - (0 : Int32)) &&& (255 : Int32)), a) := by simp only [rAlu, if_neg c_1, if_neg c_45, if_pos c_46, if_pos c_47, if_neg c_48, if_pos c_52, if_pos c_53]
                rw [hF]
                exact KC.retv hx hb hr hlocks hK hP hD hS dX5_alu_242
              · refine lv_aload_n hx hb dX5_alu_229 rfl (lv_at hl 3 rfl) ?_
                refine va_get (ci := 5) (v := .ref (o 23)) (C := RX5) (T := TX5) (N := 24) hx hb hts hi5 hown hK hP 0 rfl rfl 3 (by decide) (hts (.fieldLink RX5 16 "InvaderBoardModel" "reg" "[I") (by decide +kernel)) (fun _ h9 => h9) rfl dX5_alu_230 ?_
                refine lv_bipush (v := 7) hx hb dX5_alu_233 (by decide) ?_
                refine lv_iload hx hb dX5_alu_235 (lv_at hl 0 rfl) ?_
                refine lv_sipush (v := 255) hx hb dX5_alu_237 (by decide) ?_
                refine lv_iand hx hb dX5_alu_240 ?_
                refine pu_R_a2 hx hb hK hP hD hS (by unfold vp_in; decide) dX5_alu_241 (fun H locs hP hD hS => ?_)
                have hF : rAlu f a p1 p2 = (rSigns (upd (upd f 14 (1 : Int32)) 16 (0 : Int32)) a (((((a 2) (7 : Int32).toNatClampNeg) - p2) - (0 : Int32)) &&& (255 : Int32)), ua a 2 (upd (a 2) (7 : Int32).toNatClampNeg (((((a 2) (7 : Int32).toNatClampNeg) - p2) - (0 : Int32)) &&& (255 : Int32)))) := by simp only [rAlu, if_neg c_1, if_neg c_45, if_pos c_46, if_pos c_47, if_neg c_48, if_pos c_52, if_neg c_53]
                rw [hF]
                exact KC.retv hx hb hr hlocks hK hP hD hS dX5_alu_242
            · refine lv_iconst (v := 1) hx hb dX5_alu_150 (by decide) ?_
              refine lv_goto (tgt := 155) hx hb dX5_alu_151 (by decide) ?_
              refine pu_R_f16 (v := (1 : Int32)) hx hb hts hi5 hown hK hP hD hS (hts (.fieldLink RX5 66 "InvaderBoardModel" "carry" "I") (by decide +kernel)) dX5_alu_155 (fun H locs hP hD hS => ?_)
              refine lv_goto (tgt := 213) hx hb dX5_alu_158 (by decide) ?_
              refine lv_aload_n hx hb dX5_alu_213 rfl (lv_at hl 3 rfl) ?_
              refine lv_iload hx hb dX5_alu_214 (lv_at hl 0 rfl) ?_
              refine lv_sipush (v := 255) hx hb dX5_alu_216 (by decide) ?_
              refine lv_iand hx hb dX5_alu_219 ?_
              refine KC.callv (ci := 5) (rest := []) (wt := wR cI o (rSigns (upd (upd f 14 (1 : Int32)) 16 (1 : Int32)) a (((((a 2) (7 : Int32).toNatClampNeg) - p2) - (0 : Int32)) &&& (255 : Int32))) a) (kX5_signs l D cI o (upd (upd f 14 (1 : Int32)) 16 (1 : Int32)) a (((((a 2) (7 : Int32).toNatClampNeg) - p2) - (0 : Int32)) &&& (255 : Int32))) (cwV 1 hts gX5_alu_X5_signs rfl rfl rfl (by decide +kernel) ⟨Nat.le_of_ble_eq_true rfl, Nat.le_of_ble_eq_true rfl⟩) ⟨hx, hb, hml, hown, hts⟩ hK hP hD hS hA rfl rfl rfl [0, 1, 2, 3, 4, 5, 6] [] [0, 1, 2, 3, 4, 5, 6] (by decide) rfl (wr := []) rfl (by decide) (by decide) (by decide) rfl rfl hl.1 rfl (Nat.le_of_ble_eq_true rfl) dX5_alu_220 ⟨Nat.zero_le _, Nat.zero_le _⟩ (fun H locs hP hD hS => ?_)
              refine lv_iload_n hx hb dX5_alu_223 rfl (lv_at hl 4 rfl) ?_
              refine lv_bipush (v := 7) hx hb dX5_alu_224 (by decide) ?_
              refine lv_icmp_ge (tgt := 242) hx hb dX5_alu_226 (by decide) (fun c_54 => ?_) (fun c_54 => ?_)
              · have hF : rAlu f a p1 p2 = (rSigns (upd (upd f 14 (1 : Int32)) 16 (1 : Int32)) a (((((a 2) (7 : Int32).toNatClampNeg) - p2) - (0 : Int32)) &&& (255 : Int32)), a) := by simp only [rAlu, if_neg c_1, if_neg c_45, if_pos c_46, if_pos c_47, if_neg c_48, if_neg c_52, if_pos c_54]
                rw [hF]
                exact KC.retv hx hb hr hlocks hK hP hD hS dX5_alu_242
              · refine lv_aload_n hx hb dX5_alu_229 rfl (lv_at hl 3 rfl) ?_
                refine va_get (ci := 5) (v := .ref (o 23)) (C := RX5) (T := TX5) (N := 24) hx hb hts hi5 hown hK hP 0 rfl rfl 3 (by decide) (hts (.fieldLink RX5 16 "InvaderBoardModel" "reg" "[I") (by decide +kernel)) (fun _ h9 => h9) rfl dX5_alu_230 ?_
                refine lv_bipush (v := 7) hx hb dX5_alu_233 (by decide) ?_
                refine lv_iload hx hb dX5_alu_235 (lv_at hl 0 rfl) ?_
                refine lv_sipush (v := 255) hx hb dX5_alu_237 (by decide) ?_
                refine lv_iand hx hb dX5_alu_240 ?_
                refine pu_R_a2 hx hb hK hP hD hS (by unfold vp_in; decide) dX5_alu_241 (fun H locs hP hD hS => ?_)
                have hF : rAlu f a p1 p2 = (rSigns (upd (upd f 14 (1 : Int32)) 16 (1 : Int32)) a (((((a 2) (7 : Int32).toNatClampNeg) - p2) - (0 : Int32)) &&& (255 : Int32)), ua a 2 (upd (a 2) (7 : Int32).toNatClampNeg (((((a 2) (7 : Int32).toNatClampNeg) - p2) - (0 : Int32)) &&& (255 : Int32)))) := by simp only [rAlu, if_neg c_1, if_neg c_45, if_pos c_46, if_pos c_47, if_neg c_48, if_neg c_52, if_neg c_54]
                rw [hF]
                exact KC.retv hx hb hr hlocks hK hP hD hS dX5_alu_242
        · refine lv_iload_n hx hb dX5_alu_95 rfl (lv_at hl 4 rfl) ?_
          refine lv_iconst (v := 3) hx hb dX5_alu_96 (by decide) ?_
          refine lv_icmp_eq (tgt := 106) hx hb dX5_alu_97 (by decide) (fun c_55 => ?_) (fun c_55 => ?_)
          · refine lv_iload_n hx hb dX5_alu_106 rfl (lv_at hl 2 rfl) ?_
            refine lv_iload_n hx hb dX5_alu_107 rfl (lv_at hl 5 rfl) ?_
            refine lv_isub hx hb dX5_alu_108 ?_
            refine lv_iload hx hb dX5_alu_109 (lv_at hl 1 rfl) ?_
            refine lv_isub hx hb dX5_alu_111 ?_
            refine lv_istore (lv' := [(5, .int _), (4, .int _), (3, .int _), (0, .ref _), (1, .int _), (2, .int _)]) hx hb dX5_alu_112 hl (by decide) rfl (fun ls hl => ?_)
            refine lv_aload_n hx hb dX5_alu_114 rfl (lv_at hl 3 rfl) ?_
            refine lv_iload_n hx hb dX5_alu_115 rfl (lv_at hl 2 rfl) ?_
            refine lv_bipush (v := 15) hx hb dX5_alu_116 (by decide) ?_
            refine lv_iand hx hb dX5_alu_118 ?_
            refine lv_iload_n hx hb dX5_alu_119 rfl (lv_at hl 5 rfl) ?_
            refine lv_iconst (v := -1) hx hb dX5_alu_120 (by decide) ?_
            refine lv_ixor hx hb dX5_alu_121 ?_
            refine lv_bipush (v := 15) hx hb dX5_alu_122 (by decide) ?_
            refine lv_iand hx hb dX5_alu_124 ?_
            refine lv_iadd hx hb dX5_alu_125 ?_
            refine lv_iconst (v := 1) hx hb dX5_alu_126 (by decide) ?_
            refine lv_iadd hx hb dX5_alu_127 ?_
            refine lv_iload hx hb dX5_alu_128 (lv_at hl 1 rfl) ?_
            refine lv_isub hx hb dX5_alu_130 ?_
            refine lv_bipush (v := 15) hx hb dX5_alu_131 (by decide) ?_
            refine lv_icmp_le (tgt := 140) hx hb dX5_alu_133 (by decide) (fun c_56 => ?_) (fun c_56 => ?_)
            · refine lv_iconst (v := 0) hx hb dX5_alu_140 (by decide) ?_
              refine pu_R_f14 (v := (0 : Int32)) hx hb hts hi5 hown hK hP hD hS (hts (.fieldLink RX5 63 "InvaderBoardModel" "half" "I") (by decide +kernel)) dX5_alu_141 (fun H locs hP hD hS => ?_)
              refine lv_aload_n hx hb dX5_alu_144 rfl (lv_at hl 3 rfl) ?_
              refine lv_iload hx hb dX5_alu_145 (lv_at hl 0 rfl) ?_
              refine lv_if_ge (tgt := 154) hx hb dX5_alu_147 (by decide) (fun c_57 => ?_) (fun c_57 => ?_)
              · refine lv_iconst (v := 0) hx hb dX5_alu_154 (by decide) ?_
                refine pu_R_f16 (v := (0 : Int32)) hx hb hts hi5 hown hK hP hD hS (hts (.fieldLink RX5 66 "InvaderBoardModel" "carry" "I") (by decide +kernel)) dX5_alu_155 (fun H locs hP hD hS => ?_)
                refine lv_goto (tgt := 213) hx hb dX5_alu_158 (by decide) ?_
                refine lv_aload_n hx hb dX5_alu_213 rfl (lv_at hl 3 rfl) ?_
                refine lv_iload hx hb dX5_alu_214 (lv_at hl 0 rfl) ?_
                refine lv_sipush (v := 255) hx hb dX5_alu_216 (by decide) ?_
                refine lv_iand hx hb dX5_alu_219 ?_
                refine KC.callv (ci := 5) (rest := []) (wt := wR cI o (rSigns (upd (upd f 14 (0 : Int32)) 16 (0 : Int32)) a (((((a 2) (7 : Int32).toNatClampNeg) - p2) - (0 : Int32)) &&& (255 : Int32))) a) (kX5_signs l D cI o (upd (upd f 14 (0 : Int32)) 16 (0 : Int32)) a (((((a 2) (7 : Int32).toNatClampNeg) - p2) - (0 : Int32)) &&& (255 : Int32))) (cwV 1 hts gX5_alu_X5_signs rfl rfl rfl (by decide +kernel) ⟨Nat.le_of_ble_eq_true rfl, Nat.le_of_ble_eq_true rfl⟩) ⟨hx, hb, hml, hown, hts⟩ hK hP hD hS hA rfl rfl rfl [0, 1, 2, 3, 4, 5, 6] [] [0, 1, 2, 3, 4, 5, 6] (by decide) rfl (wr := []) rfl (by decide) (by decide) (by decide) rfl rfl hl.1 rfl (Nat.le_of_ble_eq_true rfl) dX5_alu_220 ⟨Nat.zero_le _, Nat.zero_le _⟩ (fun H locs hP hD hS => ?_)
                refine lv_iload_n hx hb dX5_alu_223 rfl (lv_at hl 4 rfl) ?_
                refine lv_bipush (v := 7) hx hb dX5_alu_224 (by decide) ?_
                refine lv_icmp_ge (tgt := 242) hx hb dX5_alu_226 (by decide) (fun c_58 => ?_) (fun c_58 => ?_)
                · have hF : rAlu f a p1 p2 = (rSigns (upd (upd f 14 (0 : Int32)) 16 (0 : Int32)) a (((((a 2) (7 : Int32).toNatClampNeg) - p2) - (0 : Int32)) &&& (255 : Int32)), a) := by simp only [rAlu, if_neg c_1, if_neg c_45, if_pos c_46, if_neg c_47, if_pos c_55, if_pos c_56, if_pos c_57, if_pos c_58]
                  rw [hF]
                  exact KC.retv hx hb hr hlocks hK hP hD hS dX5_alu_242
                · refine lv_aload_n hx hb dX5_alu_229 rfl (lv_at hl 3 rfl) ?_
                  refine va_get (ci := 5) (v := .ref (o 23)) (C := RX5) (T := TX5) (N := 24) hx hb hts hi5 hown hK hP 0 rfl rfl 3 (by decide) (hts (.fieldLink RX5 16 "InvaderBoardModel" "reg" "[I") (by decide +kernel)) (fun _ h9 => h9) rfl dX5_alu_230 ?_
                  refine lv_bipush (v := 7) hx hb dX5_alu_233 (by decide) ?_
                  refine lv_iload hx hb dX5_alu_235 (lv_at hl 0 rfl) ?_
                  refine lv_sipush (v := 255) hx hb dX5_alu_237 (by decide) ?_
                  refine lv_iand hx hb dX5_alu_240 ?_
                  refine pu_R_a2 hx hb hK hP hD hS (by unfold vp_in; decide) dX5_alu_241 (fun H locs hP hD hS => ?_)
                  have hF : rAlu f a p1 p2 = (rSigns (upd (upd f 14 (0 : Int32)) 16 (0 : Int32)) a (((((a 2) (7 : Int32).toNatClampNeg) - p2) - (0 : Int32)) &&& (255 : Int32)), ua a 2 (upd (a 2) (7 : Int32).toNatClampNeg (((((a 2) (7 : Int32).toNatClampNeg) - p2) - (0 : Int32)) &&& (255 : Int32)))) := by simp only [rAlu, if_neg c_1, if_neg c_45, if_pos c_46, if_neg c_47, if_pos c_55, if_pos c_56, if_pos c_57, if_neg c_58]
                  rw [hF]
                  exact KC.retv hx hb hr hlocks hK hP hD hS dX5_alu_242
              · refine lv_iconst (v := 1) hx hb dX5_alu_150 (by decide) ?_
                refine lv_goto (tgt := 155) hx hb dX5_alu_151 (by decide) ?_
                refine pu_R_f16 (v := (1 : Int32)) hx hb hts hi5 hown hK hP hD hS (hts (.fieldLink RX5 66 "InvaderBoardModel" "carry" "I") (by decide +kernel)) dX5_alu_155 (fun H locs hP hD hS => ?_)
                refine lv_goto (tgt := 213) hx hb dX5_alu_158 (by decide) ?_
                refine lv_aload_n hx hb dX5_alu_213 rfl (lv_at hl 3 rfl) ?_
                refine lv_iload hx hb dX5_alu_214 (lv_at hl 0 rfl) ?_
                refine lv_sipush (v := 255) hx hb dX5_alu_216 (by decide) ?_
                refine lv_iand hx hb dX5_alu_219 ?_
                refine KC.callv (ci := 5) (rest := []) (wt := wR cI o (rSigns (upd (upd f 14 (0 : Int32)) 16 (1 : Int32)) a (((((a 2) (7 : Int32).toNatClampNeg) - p2) - (0 : Int32)) &&& (255 : Int32))) a) (kX5_signs l D cI o (upd (upd f 14 (0 : Int32)) 16 (1 : Int32)) a (((((a 2) (7 : Int32).toNatClampNeg) - p2) - (0 : Int32)) &&& (255 : Int32))) (cwV 1 hts gX5_alu_X5_signs rfl rfl rfl (by decide +kernel) ⟨Nat.le_of_ble_eq_true rfl, Nat.le_of_ble_eq_true rfl⟩) ⟨hx, hb, hml, hown, hts⟩ hK hP hD hS hA rfl rfl rfl [0, 1, 2, 3, 4, 5, 6] [] [0, 1, 2, 3, 4, 5, 6] (by decide) rfl (wr := []) rfl (by decide) (by decide) (by decide) rfl rfl hl.1 rfl (Nat.le_of_ble_eq_true rfl) dX5_alu_220 ⟨Nat.zero_le _, Nat.zero_le _⟩ (fun H locs hP hD hS => ?_)
                refine lv_iload_n hx hb dX5_alu_223 rfl (lv_at hl 4 rfl) ?_
                refine lv_bipush (v := 7) hx hb dX5_alu_224 (by decide) ?_
                refine lv_icmp_ge (tgt := 242) hx hb dX5_alu_226 (by decide) (fun c_59 => ?_) (fun c_59 => ?_)
                · have hF : rAlu f a p1 p2 = (rSigns (upd (upd f 14 (0 : Int32)) 16 (1 : Int32)) a (((((a 2) (7 : Int32).toNatClampNeg) - p2) - (0 : Int32)) &&& (255 : Int32)), a) := by simp only [rAlu, if_neg c_1, if_neg c_45, if_pos c_46, if_neg c_47, if_pos c_55, if_pos c_56, if_neg c_57, if_pos c_59]
                  rw [hF]
                  exact KC.retv hx hb hr hlocks hK hP hD hS dX5_alu_242
                · refine lv_aload_n hx hb dX5_alu_229 rfl (lv_at hl 3 rfl) ?_
                  refine va_get (ci := 5) (v := .ref (o 23)) (C := RX5) (T := TX5) (N := 24) hx hb hts hi5 hown hK hP 0 rfl rfl 3 (by decide) (hts (.fieldLink RX5 16 "InvaderBoardModel" "reg" "[I") (by decide +kernel)) (fun _ h9 => h9) rfl dX5_alu_230 ?_
                  refine lv_bipush (v := 7) hx hb dX5_alu_233 (by decide) ?_
                  refine lv_iload hx hb dX5_alu_235 (lv_at hl 0 rfl) ?_
                  refine lv_sipush (v := 255) hx hb dX5_alu_237 (by decide) ?_
                  refine lv_iand hx hb dX5_alu_240 ?_
                  refine pu_R_a2 hx hb hK hP hD hS (by unfold vp_in; decide) dX5_alu_241 (fun H locs hP hD hS => ?_)
                  have hF : rAlu f a p1 p2 = (rSigns (upd (upd f 14 (0 : Int32)) 16 (1 : Int32)) a (((((a 2) (7 : Int32).toNatClampNeg) - p2) - (0 : Int32)) &&& (255 : Int32)), ua a 2 (upd (a 2) (7 : Int32).toNatClampNeg (((((a 2) (7 : Int32).toNatClampNeg) - p2) - (0 : Int32)) &&& (255 : Int32)))) := by simp only [rAlu, if_neg c_1, if_neg c_45, if_pos c_46, if_neg c_47, if_pos c_55, if_pos c_56, if_neg c_57, if_neg c_59]
                  rw [hF]
                  exact KC.retv hx hb hr hlocks hK hP hD hS dX5_alu_242
            · refine lv_iconst (v := 1) hx hb dX5_alu_136 (by decide) ?_
              refine lv_goto (tgt := 141) hx hb dX5_alu_137 (by decide) ?_
              refine pu_R_f14 (v := (1 : Int32)) hx hb hts hi5 hown hK hP hD hS (hts (.fieldLink RX5 63 "InvaderBoardModel" "half" "I") (by decide +kernel)) dX5_alu_141 (fun H locs hP hD hS => ?_)
              refine lv_aload_n hx hb dX5_alu_144 rfl (lv_at hl 3 rfl) ?_
              refine lv_iload hx hb dX5_alu_145 (lv_at hl 0 rfl) ?_
              refine lv_if_ge (tgt := 154) hx hb dX5_alu_147 (by decide) (fun c_60 => ?_) (fun c_60 => ?_)
              · refine lv_iconst (v := 0) hx hb dX5_alu_154 (by decide) ?_
                refine pu_R_f16 (v := (0 : Int32)) hx hb hts hi5 hown hK hP hD hS (hts (.fieldLink RX5 66 "InvaderBoardModel" "carry" "I") (by decide +kernel)) dX5_alu_155 (fun H locs hP hD hS => ?_)
                refine lv_goto (tgt := 213) hx hb dX5_alu_158 (by decide) ?_
                refine lv_aload_n hx hb dX5_alu_213 rfl (lv_at hl 3 rfl) ?_
                refine lv_iload hx hb dX5_alu_214 (lv_at hl 0 rfl) ?_
                refine lv_sipush (v := 255) hx hb dX5_alu_216 (by decide) ?_
                refine lv_iand hx hb dX5_alu_219 ?_
                refine KC.callv (ci := 5) (rest := []) (wt := wR cI o (rSigns (upd (upd f 14 (1 : Int32)) 16 (0 : Int32)) a (((((a 2) (7 : Int32).toNatClampNeg) - p2) - (0 : Int32)) &&& (255 : Int32))) a) (kX5_signs l D cI o (upd (upd f 14 (1 : Int32)) 16 (0 : Int32)) a (((((a 2) (7 : Int32).toNatClampNeg) - p2) - (0 : Int32)) &&& (255 : Int32))) (cwV 1 hts gX5_alu_X5_signs rfl rfl rfl (by decide +kernel) ⟨Nat.le_of_ble_eq_true rfl, Nat.le_of_ble_eq_true rfl⟩) ⟨hx, hb, hml, hown, hts⟩ hK hP hD hS hA rfl rfl rfl [0, 1, 2, 3, 4, 5, 6] [] [0, 1, 2, 3, 4, 5, 6] (by decide) rfl (wr := []) rfl (by decide) (by decide) (by decide) rfl rfl hl.1 rfl (Nat.le_of_ble_eq_true rfl) dX5_alu_220 ⟨Nat.zero_le _, Nat.zero_le _⟩ (fun H locs hP hD hS => ?_)
                refine lv_iload_n hx hb dX5_alu_223 rfl (lv_at hl 4 rfl) ?_
                refine lv_bipush (v := 7) hx hb dX5_alu_224 (by decide) ?_
                refine lv_icmp_ge (tgt := 242) hx hb dX5_alu_226 (by decide) (fun c_61 => ?_) (fun c_61 => ?_)
                · have hF : rAlu f a p1 p2 = (rSigns (upd (upd f 14 (1 : Int32)) 16 (0 : Int32)) a (((((a 2) (7 : Int32).toNatClampNeg) - p2) - (0 : Int32)) &&& (255 : Int32)), a) := by simp only [rAlu, if_neg c_1, if_neg c_45, if_pos c_46, if_neg c_47, if_pos c_55, if_neg c_56, if_pos c_60, if_pos c_61]
                  rw [hF]
                  exact KC.retv hx hb hr hlocks hK hP hD hS dX5_alu_242
                · refine lv_aload_n hx hb dX5_alu_229 rfl (lv_at hl 3 rfl) ?_
                  refine va_get (ci := 5) (v := .ref (o 23)) (C := RX5) (T := TX5) (N := 24) hx hb hts hi5 hown hK hP 0 rfl rfl 3 (by decide) (hts (.fieldLink RX5 16 "InvaderBoardModel" "reg" "[I") (by decide +kernel)) (fun _ h9 => h9) rfl dX5_alu_230 ?_
                  refine lv_bipush (v := 7) hx hb dX5_alu_233 (by decide) ?_
                  refine lv_iload hx hb dX5_alu_235 (lv_at hl 0 rfl) ?_
                  refine lv_sipush (v := 255) hx hb dX5_alu_237 (by decide) ?_
                  refine lv_iand hx hb dX5_alu_240 ?_
                  refine pu_R_a2 hx hb hK hP hD hS (by unfold vp_in; decide) dX5_alu_241 (fun H locs hP hD hS => ?_)
                  have hF : rAlu f a p1 p2 = (rSigns (upd (upd f 14 (1 : Int32)) 16 (0 : Int32)) a (((((a 2) (7 : Int32).toNatClampNeg) - p2) - (0 : Int32)) &&& (255 : Int32)), ua a 2 (upd (a 2) (7 : Int32).toNatClampNeg (((((a 2) (7 : Int32).toNatClampNeg) - p2) - (0 : Int32)) &&& (255 : Int32)))) := by simp only [rAlu, if_neg c_1, if_neg c_45, if_pos c_46, if_neg c_47, if_pos c_55, if_neg c_56, if_pos c_60, if_neg c_61]
                  rw [hF]
                  exact KC.retv hx hb hr hlocks hK hP hD hS dX5_alu_242
              · refine lv_iconst (v := 1) hx hb dX5_alu_150 (by decide) ?_
                refine lv_goto (tgt := 155) hx hb dX5_alu_151 (by decide) ?_
                refine pu_R_f16 (v := (1 : Int32)) hx hb hts hi5 hown hK hP hD hS (hts (.fieldLink RX5 66 "InvaderBoardModel" "carry" "I") (by decide +kernel)) dX5_alu_155 (fun H locs hP hD hS => ?_)
                refine lv_goto (tgt := 213) hx hb dX5_alu_158 (by decide) ?_
                refine lv_aload_n hx hb dX5_alu_213 rfl (lv_at hl 3 rfl) ?_
                refine lv_iload hx hb dX5_alu_214 (lv_at hl 0 rfl) ?_
                refine lv_sipush (v := 255) hx hb dX5_alu_216 (by decide) ?_
                refine lv_iand hx hb dX5_alu_219 ?_
                refine KC.callv (ci := 5) (rest := []) (wt := wR cI o (rSigns (upd (upd f 14 (1 : Int32)) 16 (1 : Int32)) a (((((a 2) (7 : Int32).toNatClampNeg) - p2) - (0 : Int32)) &&& (255 : Int32))) a) (kX5_signs l D cI o (upd (upd f 14 (1 : Int32)) 16 (1 : Int32)) a (((((a 2) (7 : Int32).toNatClampNeg) - p2) - (0 : Int32)) &&& (255 : Int32))) (cwV 1 hts gX5_alu_X5_signs rfl rfl rfl (by decide +kernel) ⟨Nat.le_of_ble_eq_true rfl, Nat.le_of_ble_eq_true rfl⟩) ⟨hx, hb, hml, hown, hts⟩ hK hP hD hS hA rfl rfl rfl [0, 1, 2, 3, 4, 5, 6] [] [0, 1, 2, 3, 4, 5, 6] (by decide) rfl (wr := []) rfl (by decide) (by decide) (by decide) rfl rfl hl.1 rfl (Nat.le_of_ble_eq_true rfl) dX5_alu_220 ⟨Nat.zero_le _, Nat.zero_le _⟩ (fun H locs hP hD hS => ?_)
                refine lv_iload_n hx hb dX5_alu_223 rfl (lv_at hl 4 rfl) ?_
                refine lv_bipush (v := 7) hx hb dX5_alu_224 (by decide) ?_
                refine lv_icmp_ge (tgt := 242) hx hb dX5_alu_226 (by decide) (fun c_62 => ?_) (fun c_62 => ?_)
                · have hF : rAlu f a p1 p2 = (rSigns (upd (upd f 14 (1 : Int32)) 16 (1 : Int32)) a (((((a 2) (7 : Int32).toNatClampNeg) - p2) - (0 : Int32)) &&& (255 : Int32)), a) := by simp only [rAlu, if_neg c_1, if_neg c_45, if_pos c_46, if_neg c_47, if_pos c_55, if_neg c_56, if_neg c_60, if_pos c_62]
                  rw [hF]
                  exact KC.retv hx hb hr hlocks hK hP hD hS dX5_alu_242
                · refine lv_aload_n hx hb dX5_alu_229 rfl (lv_at hl 3 rfl) ?_
                  refine va_get (ci := 5) (v := .ref (o 23)) (C := RX5) (T := TX5) (N := 24) hx hb hts hi5 hown hK hP 0 rfl rfl 3 (by decide) (hts (.fieldLink RX5 16 "InvaderBoardModel" "reg" "[I") (by decide +kernel)) (fun _ h9 => h9) rfl dX5_alu_230 ?_
                  refine lv_bipush (v := 7) hx hb dX5_alu_233 (by decide) ?_
                  refine lv_iload hx hb dX5_alu_235 (lv_at hl 0 rfl) ?_
                  refine lv_sipush (v := 255) hx hb dX5_alu_237 (by decide) ?_
                  refine lv_iand hx hb dX5_alu_240 ?_
                  refine pu_R_a2 hx hb hK hP hD hS (by unfold vp_in; decide) dX5_alu_241 (fun H locs hP hD hS => ?_)
                  have hF : rAlu f a p1 p2 = (rSigns (upd (upd f 14 (1 : Int32)) 16 (1 : Int32)) a (((((a 2) (7 : Int32).toNatClampNeg) - p2) - (0 : Int32)) &&& (255 : Int32)), ua a 2 (upd (a 2) (7 : Int32).toNatClampNeg (((((a 2) (7 : Int32).toNatClampNeg) - p2) - (0 : Int32)) &&& (255 : Int32)))) := by simp only [rAlu, if_neg c_1, if_neg c_45, if_pos c_46, if_neg c_47, if_pos c_55, if_neg c_56, if_neg c_60, if_neg c_62]
                  rw [hF]
                  exact KC.retv hx hb hr hlocks hK hP hD hS dX5_alu_242
          · refine lv_iload_n hx hb dX5_alu_100 rfl (lv_at hl 4 rfl) ?_
            refine lv_bipush (v := 7) hx hb dX5_alu_101 (by decide) ?_
            refine lv_icmp_ne (tgt := 161) hx hb dX5_alu_103 (by decide) (fun c_63 => ?_) (fun c_63 => ?_)
            · refine lv_iload_n hx hb dX5_alu_161 rfl (lv_at hl 4 rfl) ?_
              refine lv_iconst (v := 4) hx hb dX5_alu_162 (by decide) ?_
              refine lv_icmp_ne (tgt := 172) hx hb dX5_alu_163 (by decide) (fun c_64 => ?_) (fun c_64 => ?_)
              · refine lv_iload_n hx hb dX5_alu_172 rfl (lv_at hl 4 rfl) ?_
                refine lv_iconst (v := 5) hx hb dX5_alu_173 (by decide) ?_
                refine lv_icmp_ne (tgt := 183) hx hb dX5_alu_174 (by decide) (fun c_65 => ?_) (fun c_65 => ?_)
                · refine lv_iload_n hx hb dX5_alu_183 rfl (lv_at hl 2 rfl) ?_
                  refine lv_iload_n hx hb dX5_alu_184 rfl (lv_at hl 5 rfl) ?_
                  refine lv_ior hx hb dX5_alu_185 ?_
                  refine lv_istore (lv' := [(5, .int _), (4, .int _), (3, .int _), (0, .ref _), (1, .int _), (2, .int _)]) hx hb dX5_alu_186 hl (by decide) rfl (fun ls hl => ?_)
                  refine lv_aload_n hx hb dX5_alu_188 rfl (lv_at hl 3 rfl) ?_
                  refine lv_iload_n hx hb dX5_alu_189 rfl (lv_at hl 4 rfl) ?_
                  refine lv_iconst (v := 4) hx hb dX5_alu_190 (by decide) ?_
                  refine lv_icmp_ne (tgt := 204) hx hb dX5_alu_191 (by decide) (fun c_66 => ?_) (fun c_66 => ?_)
                  · refine lv_iconst (v := 0) hx hb dX5_alu_204 (by decide) ?_
                    refine pu_R_f14 (v := (0 : Int32)) hx hb hts hi5 hown hK hP hD hS (hts (.fieldLink RX5 63 "InvaderBoardModel" "half" "I") (by decide +kernel)) dX5_alu_205 (fun H locs hP hD hS => ?_)
                    refine lv_aload_n hx hb dX5_alu_208 rfl (lv_at hl 3 rfl) ?_
                    refine lv_iconst (v := 0) hx hb dX5_alu_209 (by decide) ?_
                    refine pu_R_f16 (v := (0 : Int32)) hx hb hts hi5 hown hK hP hD hS (hts (.fieldLink RX5 66 "InvaderBoardModel" "carry" "I") (by decide +kernel)) dX5_alu_210 (fun H locs hP hD hS => ?_)
                    refine lv_aload_n hx hb dX5_alu_213 rfl (lv_at hl 3 rfl) ?_
                    refine lv_iload hx hb dX5_alu_214 (lv_at hl 0 rfl) ?_
                    refine lv_sipush (v := 255) hx hb dX5_alu_216 (by decide) ?_
                    refine lv_iand hx hb dX5_alu_219 ?_
                    refine KC.callv (ci := 5) (rest := []) (wt := wR cI o (rSigns (upd (upd f 14 (0 : Int32)) 16 (0 : Int32)) a ((((a 2) (7 : Int32).toNatClampNeg) ||| p2) &&& (255 : Int32))) a) (kX5_signs l D cI o (upd (upd f 14 (0 : Int32)) 16 (0 : Int32)) a ((((a 2) (7 : Int32).toNatClampNeg) ||| p2) &&& (255 : Int32))) (cwV 1 hts gX5_alu_X5_signs rfl rfl rfl (by decide +kernel) ⟨Nat.le_of_ble_eq_true rfl, Nat.le_of_ble_eq_true rfl⟩) ⟨hx, hb, hml, hown, hts⟩ hK hP hD hS hA rfl rfl rfl [0, 1, 2, 3, 4, 5, 6] [] [0, 1, 2, 3, 4, 5, 6] (by decide) rfl (wr := []) rfl (by decide) (by decide) (by decide) rfl rfl hl.1 rfl (Nat.le_of_ble_eq_true rfl) dX5_alu_220 ⟨Nat.zero_le _, Nat.zero_le _⟩ (fun H locs hP hD hS => ?_)
                    refine lv_iload_n hx hb dX5_alu_223 rfl (lv_at hl 4 rfl) ?_
                    refine lv_bipush (v := 7) hx hb dX5_alu_224 (by decide) ?_
                    refine lv_icmp_ge (tgt := 242) hx hb dX5_alu_226 (by decide) (fun c_67 => ?_) (fun c_67 => ?_)
                    · have hF : rAlu f a p1 p2 = (rSigns (upd (upd f 14 (0 : Int32)) 16 (0 : Int32)) a ((((a 2) (7 : Int32).toNatClampNeg) ||| p2) &&& (255 : Int32)), a) := by simp only [rAlu, if_neg c_1, if_neg c_45, if_pos c_46, if_neg c_47, if_neg c_55, if_neg c_63, if_neg c_64, if_neg c_65, if_neg c_66, if_pos c_67]
                      rw [hF]
                      exact KC.retv hx hb hr hlocks hK hP hD hS dX5_alu_242
                    · refine lv_aload_n hx hb dX5_alu_229 rfl (lv_at hl 3 rfl) ?_
                      refine va_get (ci := 5) (v := .ref (o 23)) (C := RX5) (T := TX5) (N := 24) hx hb hts hi5 hown hK hP 0 rfl rfl 3 (by decide) (hts (.fieldLink RX5 16 "InvaderBoardModel" "reg" "[I") (by decide +kernel)) (fun _ h9 => h9) rfl dX5_alu_230 ?_
                      refine lv_bipush (v := 7) hx hb dX5_alu_233 (by decide) ?_
                      refine lv_iload hx hb dX5_alu_235 (lv_at hl 0 rfl) ?_
                      refine lv_sipush (v := 255) hx hb dX5_alu_237 (by decide) ?_
                      refine lv_iand hx hb dX5_alu_240 ?_
                      refine pu_R_a2 hx hb hK hP hD hS (by unfold vp_in; decide) dX5_alu_241 (fun H locs hP hD hS => ?_)
                      have hF : rAlu f a p1 p2 = (rSigns (upd (upd f 14 (0 : Int32)) 16 (0 : Int32)) a ((((a 2) (7 : Int32).toNatClampNeg) ||| p2) &&& (255 : Int32)), ua a 2 (upd (a 2) (7 : Int32).toNatClampNeg ((((a 2) (7 : Int32).toNatClampNeg) ||| p2) &&& (255 : Int32)))) := by simp only [rAlu, if_neg c_1, if_neg c_45, if_pos c_46, if_neg c_47, if_neg c_55, if_neg c_63, if_neg c_64, if_neg c_65, if_neg c_66, if_neg c_67]
                      rw [hF]
                      exact KC.retv hx hb hr hlocks hK hP hD hS dX5_alu_242
                  · refine lv_iload_n hx hb dX5_alu_194 rfl (lv_at hl 2 rfl) ?_
                    refine lv_iload_n hx hb dX5_alu_195 rfl (lv_at hl 5 rfl) ?_
                    refine lv_ior hx hb dX5_alu_196 ?_
                    refine lv_iconst (v := 3) hx hb dX5_alu_197 (by decide) ?_
                    refine lv_ishr hx hb dX5_alu_198 ?_
                    refine lv_iconst (v := 1) hx hb dX5_alu_199 (by decide) ?_
                    refine lv_iand hx hb dX5_alu_200 ?_
                    refine lv_goto (tgt := 205) hx hb dX5_alu_201 (by decide) ?_
                    refine pu_R_f14 (v := ((((a 2) (7 : Int32).toNatClampNeg) ||| p2) >>> ((3 : Int32) &&& 31)) &&& (1 : Int32)) hx hb hts hi5 hown hK hP hD hS (hts (.fieldLink RX5 63 "InvaderBoardModel" "half" "I") (by decide +kernel)) dX5_alu_205 (fun H locs hP hD hS => ?_)
                    refine lv_aload_n hx hb dX5_alu_208 rfl (lv_at hl 3 rfl) ?_
                    refine lv_iconst (v := 0) hx hb dX5_alu_209 (by decide) ?_
                    refine pu_R_f16 (v := (0 : Int32)) hx hb hts hi5 hown hK hP hD hS (hts (.fieldLink RX5 66 "InvaderBoardModel" "carry" "I") (by decide +kernel)) dX5_alu_210 (fun H locs hP hD hS => ?_)
                    refine lv_aload_n hx hb dX5_alu_213 rfl (lv_at hl 3 rfl) ?_
                    refine lv_iload hx hb dX5_alu_214 (lv_at hl 0 rfl) ?_
                    refine lv_sipush (v := 255) hx hb dX5_alu_216 (by decide) ?_
                    refine lv_iand hx hb dX5_alu_219 ?_
                    refine KC.callv (ci := 5) (rest := []) (wt := wR cI o (rSigns (upd (upd f 14 (((((a 2) (7 : Int32).toNatClampNeg) ||| p2) >>> ((3 : Int32) &&& 31)) &&& (1 : Int32))) 16 (0 : Int32)) a ((((a 2) (7 : Int32).toNatClampNeg) ||| p2) &&& (255 : Int32))) a) (kX5_signs l D cI o (upd (upd f 14 (((((a 2) (7 : Int32).toNatClampNeg) ||| p2) >>> ((3 : Int32) &&& 31)) &&& (1 : Int32))) 16 (0 : Int32)) a ((((a 2) (7 : Int32).toNatClampNeg) ||| p2) &&& (255 : Int32))) (cwV 1 hts gX5_alu_X5_signs rfl rfl rfl (by decide +kernel) ⟨Nat.le_of_ble_eq_true rfl, Nat.le_of_ble_eq_true rfl⟩) ⟨hx, hb, hml, hown, hts⟩ hK hP hD hS hA rfl rfl rfl [0, 1, 2, 3, 4, 5, 6] [] [0, 1, 2, 3, 4, 5, 6] (by decide) rfl (wr := []) rfl (by decide) (by decide) (by decide) rfl rfl hl.1 rfl (Nat.le_of_ble_eq_true rfl) dX5_alu_220 ⟨Nat.zero_le _, Nat.zero_le _⟩ (fun H locs hP hD hS => ?_)
                    refine lv_iload_n hx hb dX5_alu_223 rfl (lv_at hl 4 rfl) ?_
                    refine lv_bipush (v := 7) hx hb dX5_alu_224 (by decide) ?_
                    refine lv_icmp_ge (tgt := 242) hx hb dX5_alu_226 (by decide) (fun c_68 => ?_) (fun c_68 => ?_)
                    · have hF : rAlu f a p1 p2 = (rSigns (upd (upd f 14 (((((a 2) (7 : Int32).toNatClampNeg) ||| p2) >>> ((3 : Int32) &&& 31)) &&& (1 : Int32))) 16 (0 : Int32)) a ((((a 2) (7 : Int32).toNatClampNeg) ||| p2) &&& (255 : Int32)), a) := by simp only [rAlu, if_neg c_1, if_neg c_45, if_pos c_46, if_neg c_47, if_neg c_55, if_neg c_63, if_neg c_64, if_neg c_65, if_pos c_66, if_pos c_68]
                      rw [hF]
                      exact KC.retv hx hb hr hlocks hK hP hD hS dX5_alu_242
                    · refine lv_aload_n hx hb dX5_alu_229 rfl (lv_at hl 3 rfl) ?_
                      refine va_get (ci := 5) (v := .ref (o 23)) (C := RX5) (T := TX5) (N := 24) hx hb hts hi5 hown hK hP 0 rfl rfl 3 (by decide) (hts (.fieldLink RX5 16 "InvaderBoardModel" "reg" "[I") (by decide +kernel)) (fun _ h9 => h9) rfl dX5_alu_230 ?_
                      refine lv_bipush (v := 7) hx hb dX5_alu_233 (by decide) ?_
                      refine lv_iload hx hb dX5_alu_235 (lv_at hl 0 rfl) ?_
                      refine lv_sipush (v := 255) hx hb dX5_alu_237 (by decide) ?_
                      refine lv_iand hx hb dX5_alu_240 ?_
                      refine pu_R_a2 hx hb hK hP hD hS (by unfold vp_in; decide) dX5_alu_241 (fun H locs hP hD hS => ?_)
                      have hF : rAlu f a p1 p2 = (rSigns (upd (upd f 14 (((((a 2) (7 : Int32).toNatClampNeg) ||| p2) >>> ((3 : Int32) &&& 31)) &&& (1 : Int32))) 16 (0 : Int32)) a ((((a 2) (7 : Int32).toNatClampNeg) ||| p2) &&& (255 : Int32)), ua a 2 (upd (a 2) (7 : Int32).toNatClampNeg ((((a 2) (7 : Int32).toNatClampNeg) ||| p2) &&& (255 : Int32)))) := by simp only [rAlu, if_neg c_1, if_neg c_45, if_pos c_46, if_neg c_47, if_neg c_55, if_neg c_63, if_neg c_64, if_neg c_65, if_pos c_66, if_neg c_68]
                      rw [hF]
                      exact KC.retv hx hb hr hlocks hK hP hD hS dX5_alu_242
                · refine lv_iload_n hx hb dX5_alu_177 rfl (lv_at hl 2 rfl) ?_
                  refine lv_iload_n hx hb dX5_alu_178 rfl (lv_at hl 5 rfl) ?_
                  refine lv_ixor hx hb dX5_alu_179 ?_
                  refine lv_goto (tgt := 186) hx hb dX5_alu_180 (by decide) ?_
                  refine lv_istore (lv' := [(5, .int _), (4, .int _), (3, .int _), (0, .ref _), (1, .int _), (2, .int _)]) hx hb dX5_alu_186 hl (by decide) rfl (fun ls hl => ?_)
                  refine lv_aload_n hx hb dX5_alu_188 rfl (lv_at hl 3 rfl) ?_
                  refine lv_iload_n hx hb dX5_alu_189 rfl (lv_at hl 4 rfl) ?_
                  refine lv_iconst (v := 4) hx hb dX5_alu_190 (by decide) ?_
                  refine lv_icmp_ne (tgt := 204) hx hb dX5_alu_191 (by decide) (fun c_69 => ?_) (fun c_69 => ?_)
                  · refine lv_iconst (v := 0) hx hb dX5_alu_204 (by decide) ?_
                    refine pu_R_f14 (v := (0 : Int32)) hx hb hts hi5 hown hK hP hD hS (hts (.fieldLink RX5 63 "InvaderBoardModel" "half" "I") (by decide +kernel)) dX5_alu_205 (fun H locs hP hD hS => ?_)
                    refine lv_aload_n hx hb dX5_alu_208 rfl (lv_at hl 3 rfl) ?_
                    refine lv_iconst (v := 0) hx hb dX5_alu_209 (by decide) ?_
                    refine pu_R_f16 (v := (0 : Int32)) hx hb hts hi5 hown hK hP hD hS (hts (.fieldLink RX5 66 "InvaderBoardModel" "carry" "I") (by decide +kernel)) dX5_alu_210 (fun H locs hP hD hS => ?_)
                    refine lv_aload_n hx hb dX5_alu_213 rfl (lv_at hl 3 rfl) ?_
                    refine lv_iload hx hb dX5_alu_214 (lv_at hl 0 rfl) ?_
                    refine lv_sipush (v := 255) hx hb dX5_alu_216 (by decide) ?_
                    refine lv_iand hx hb dX5_alu_219 ?_
                    refine KC.callv (ci := 5) (rest := []) (wt := wR cI o (rSigns (upd (upd f 14 (0 : Int32)) 16 (0 : Int32)) a ((((a 2) (7 : Int32).toNatClampNeg) ^^^ p2) &&& (255 : Int32))) a) (kX5_signs l D cI o (upd (upd f 14 (0 : Int32)) 16 (0 : Int32)) a ((((a 2) (7 : Int32).toNatClampNeg) ^^^ p2) &&& (255 : Int32))) (cwV 1 hts gX5_alu_X5_signs rfl rfl rfl (by decide +kernel) ⟨Nat.le_of_ble_eq_true rfl, Nat.le_of_ble_eq_true rfl⟩) ⟨hx, hb, hml, hown, hts⟩ hK hP hD hS hA rfl rfl rfl [0, 1, 2, 3, 4, 5, 6] [] [0, 1, 2, 3, 4, 5, 6] (by decide) rfl (wr := []) rfl (by decide) (by decide) (by decide) rfl rfl hl.1 rfl (Nat.le_of_ble_eq_true rfl) dX5_alu_220 ⟨Nat.zero_le _, Nat.zero_le _⟩ (fun H locs hP hD hS => ?_)
                    refine lv_iload_n hx hb dX5_alu_223 rfl (lv_at hl 4 rfl) ?_
                    refine lv_bipush (v := 7) hx hb dX5_alu_224 (by decide) ?_
                    refine lv_icmp_ge (tgt := 242) hx hb dX5_alu_226 (by decide) (fun c_70 => ?_) (fun c_70 => ?_)
                    · have hF : rAlu f a p1 p2 = (rSigns (upd (upd f 14 (0 : Int32)) 16 (0 : Int32)) a ((((a 2) (7 : Int32).toNatClampNeg) ^^^ p2) &&& (255 : Int32)), a) := by simp only [rAlu, if_neg c_1, if_neg c_45, if_pos c_46, if_neg c_47, if_neg c_55, if_neg c_63, if_neg c_64, if_pos c_65, if_neg c_69, if_pos c_70]
                      rw [hF]
                      exact KC.retv hx hb hr hlocks hK hP hD hS dX5_alu_242
                    · refine lv_aload_n hx hb dX5_alu_229 rfl (lv_at hl 3 rfl) ?_
                      refine va_get (ci := 5) (v := .ref (o 23)) (C := RX5) (T := TX5) (N := 24) hx hb hts hi5 hown hK hP 0 rfl rfl 3 (by decide) (hts (.fieldLink RX5 16 "InvaderBoardModel" "reg" "[I") (by decide +kernel)) (fun _ h9 => h9) rfl dX5_alu_230 ?_
                      refine lv_bipush (v := 7) hx hb dX5_alu_233 (by decide) ?_
                      refine lv_iload hx hb dX5_alu_235 (lv_at hl 0 rfl) ?_
                      refine lv_sipush (v := 255) hx hb dX5_alu_237 (by decide) ?_
                      refine lv_iand hx hb dX5_alu_240 ?_
                      refine pu_R_a2 hx hb hK hP hD hS (by unfold vp_in; decide) dX5_alu_241 (fun H locs hP hD hS => ?_)
                      have hF : rAlu f a p1 p2 = (rSigns (upd (upd f 14 (0 : Int32)) 16 (0 : Int32)) a ((((a 2) (7 : Int32).toNatClampNeg) ^^^ p2) &&& (255 : Int32)), ua a 2 (upd (a 2) (7 : Int32).toNatClampNeg ((((a 2) (7 : Int32).toNatClampNeg) ^^^ p2) &&& (255 : Int32)))) := by simp only [rAlu, if_neg c_1, if_neg c_45, if_pos c_46, if_neg c_47, if_neg c_55, if_neg c_63, if_neg c_64, if_pos c_65, if_neg c_69, if_neg c_70]
                      rw [hF]
                      exact KC.retv hx hb hr hlocks hK hP hD hS dX5_alu_242
                  · refine lv_iload_n hx hb dX5_alu_194 rfl (lv_at hl 2 rfl) ?_
                    refine lv_iload_n hx hb dX5_alu_195 rfl (lv_at hl 5 rfl) ?_
                    refine lv_ior hx hb dX5_alu_196 ?_
                    refine lv_iconst (v := 3) hx hb dX5_alu_197 (by decide) ?_
                    refine lv_ishr hx hb dX5_alu_198 ?_
                    refine lv_iconst (v := 1) hx hb dX5_alu_199 (by decide) ?_
                    refine lv_iand hx hb dX5_alu_200 ?_
                    refine lv_goto (tgt := 205) hx hb dX5_alu_201 (by decide) ?_
                    refine pu_R_f14 (v := ((((a 2) (7 : Int32).toNatClampNeg) ||| p2) >>> ((3 : Int32) &&& 31)) &&& (1 : Int32)) hx hb hts hi5 hown hK hP hD hS (hts (.fieldLink RX5 63 "InvaderBoardModel" "half" "I") (by decide +kernel)) dX5_alu_205 (fun H locs hP hD hS => ?_)
                    refine lv_aload_n hx hb dX5_alu_208 rfl (lv_at hl 3 rfl) ?_
                    refine lv_iconst (v := 0) hx hb dX5_alu_209 (by decide) ?_
                    refine pu_R_f16 (v := (0 : Int32)) hx hb hts hi5 hown hK hP hD hS (hts (.fieldLink RX5 66 "InvaderBoardModel" "carry" "I") (by decide +kernel)) dX5_alu_210 (fun H locs hP hD hS => ?_)
                    refine lv_aload_n hx hb dX5_alu_213 rfl (lv_at hl 3 rfl) ?_
                    refine lv_iload hx hb dX5_alu_214 (lv_at hl 0 rfl) ?_
                    refine lv_sipush (v := 255) hx hb dX5_alu_216 (by decide) ?_
                    refine lv_iand hx hb dX5_alu_219 ?_
                    refine KC.callv (ci := 5) (rest := []) (wt := wR cI o (rSigns (upd (upd f 14 (((((a 2) (7 : Int32).toNatClampNeg) ||| p2) >>> ((3 : Int32) &&& 31)) &&& (1 : Int32))) 16 (0 : Int32)) a ((((a 2) (7 : Int32).toNatClampNeg) ^^^ p2) &&& (255 : Int32))) a) (kX5_signs l D cI o (upd (upd f 14 (((((a 2) (7 : Int32).toNatClampNeg) ||| p2) >>> ((3 : Int32) &&& 31)) &&& (1 : Int32))) 16 (0 : Int32)) a ((((a 2) (7 : Int32).toNatClampNeg) ^^^ p2) &&& (255 : Int32))) (cwV 1 hts gX5_alu_X5_signs rfl rfl rfl (by decide +kernel) ⟨Nat.le_of_ble_eq_true rfl, Nat.le_of_ble_eq_true rfl⟩) ⟨hx, hb, hml, hown, hts⟩ hK hP hD hS hA rfl rfl rfl [0, 1, 2, 3, 4, 5, 6] [] [0, 1, 2, 3, 4, 5, 6] (by decide) rfl (wr := []) rfl (by decide) (by decide) (by decide) rfl rfl hl.1 rfl (Nat.le_of_ble_eq_true rfl) dX5_alu_220 ⟨Nat.zero_le _, Nat.zero_le _⟩ (fun H locs hP hD hS => ?_)
                    refine lv_iload_n hx hb dX5_alu_223 rfl (lv_at hl 4 rfl) ?_
                    refine lv_bipush (v := 7) hx hb dX5_alu_224 (by decide) ?_
                    refine lv_icmp_ge (tgt := 242) hx hb dX5_alu_226 (by decide) (fun c_71 => ?_) (fun c_71 => ?_)
                    · have hF : rAlu f a p1 p2 = (rSigns (upd (upd f 14 (((((a 2) (7 : Int32).toNatClampNeg) ||| p2) >>> ((3 : Int32) &&& 31)) &&& (1 : Int32))) 16 (0 : Int32)) a ((((a 2) (7 : Int32).toNatClampNeg) ^^^ p2) &&& (255 : Int32)), a) := by simp only [rAlu, if_neg c_1, if_neg c_45, if_pos c_46, if_neg c_47, if_neg c_55, if_neg c_63, if_neg c_64, if_pos c_65, if_pos c_69, if_pos c_71]
                      rw [hF]
                      exact KC.retv hx hb hr hlocks hK hP hD hS dX5_alu_242
                    · refine lv_aload_n hx hb dX5_alu_229 rfl (lv_at hl 3 rfl) ?_
                      refine va_get (ci := 5) (v := .ref (o 23)) (C := RX5) (T := TX5) (N := 24) hx hb hts hi5 hown hK hP 0 rfl rfl 3 (by decide) (hts (.fieldLink RX5 16 "InvaderBoardModel" "reg" "[I") (by decide +kernel)) (fun _ h9 => h9) rfl dX5_alu_230 ?_
                      refine lv_bipush (v := 7) hx hb dX5_alu_233 (by decide) ?_
                      refine lv_iload hx hb dX5_alu_235 (lv_at hl 0 rfl) ?_
                      refine lv_sipush (v := 255) hx hb dX5_alu_237 (by decide) ?_
                      refine lv_iand hx hb dX5_alu_240 ?_
                      refine pu_R_a2 hx hb hK hP hD hS (by unfold vp_in; decide) dX5_alu_241 (fun H locs hP hD hS => ?_)
                      have hF : rAlu f a p1 p2 = (rSigns (upd (upd f 14 (((((a 2) (7 : Int32).toNatClampNeg) ||| p2) >>> ((3 : Int32) &&& 31)) &&& (1 : Int32))) 16 (0 : Int32)) a ((((a 2) (7 : Int32).toNatClampNeg) ^^^ p2) &&& (255 : Int32)), ua a 2 (upd (a 2) (7 : Int32).toNatClampNeg ((((a 2) (7 : Int32).toNatClampNeg) ^^^ p2) &&& (255 : Int32)))) := by simp only [rAlu, if_neg c_1, if_neg c_45, if_pos c_46, if_neg c_47, if_neg c_55, if_neg c_63, if_neg c_64, if_pos c_65, if_pos c_69, if_neg c_71]
                      rw [hF]
                      exact KC.retv hx hb hr hlocks hK hP hD hS dX5_alu_242
              · refine lv_iload_n hx hb dX5_alu_166 rfl (lv_at hl 2 rfl) ?_
                refine lv_iload_n hx hb dX5_alu_167 rfl (lv_at hl 5 rfl) ?_
                refine lv_iand hx hb dX5_alu_168 ?_
                refine lv_goto (tgt := 186) hx hb dX5_alu_169 (by decide) ?_
                refine lv_istore (lv' := [(5, .int _), (4, .int _), (3, .int _), (0, .ref _), (1, .int _), (2, .int _)]) hx hb dX5_alu_186 hl (by decide) rfl (fun ls hl => ?_)
                refine lv_aload_n hx hb dX5_alu_188 rfl (lv_at hl 3 rfl) ?_
                refine lv_iload_n hx hb dX5_alu_189 rfl (lv_at hl 4 rfl) ?_
                refine lv_iconst (v := 4) hx hb dX5_alu_190 (by decide) ?_
                refine lv_icmp_ne (tgt := 204) hx hb dX5_alu_191 (by decide) (fun c_72 => ?_) (fun c_72 => ?_)
                · refine lv_iconst (v := 0) hx hb dX5_alu_204 (by decide) ?_
                  refine pu_R_f14 (v := (0 : Int32)) hx hb hts hi5 hown hK hP hD hS (hts (.fieldLink RX5 63 "InvaderBoardModel" "half" "I") (by decide +kernel)) dX5_alu_205 (fun H locs hP hD hS => ?_)
                  refine lv_aload_n hx hb dX5_alu_208 rfl (lv_at hl 3 rfl) ?_
                  refine lv_iconst (v := 0) hx hb dX5_alu_209 (by decide) ?_
                  refine pu_R_f16 (v := (0 : Int32)) hx hb hts hi5 hown hK hP hD hS (hts (.fieldLink RX5 66 "InvaderBoardModel" "carry" "I") (by decide +kernel)) dX5_alu_210 (fun H locs hP hD hS => ?_)
                  refine lv_aload_n hx hb dX5_alu_213 rfl (lv_at hl 3 rfl) ?_
                  refine lv_iload hx hb dX5_alu_214 (lv_at hl 0 rfl) ?_
                  refine lv_sipush (v := 255) hx hb dX5_alu_216 (by decide) ?_
                  refine lv_iand hx hb dX5_alu_219 ?_
                  refine KC.callv (ci := 5) (rest := []) (wt := wR cI o (rSigns (upd (upd f 14 (0 : Int32)) 16 (0 : Int32)) a ((((a 2) (7 : Int32).toNatClampNeg) &&& p2) &&& (255 : Int32))) a) (kX5_signs l D cI o (upd (upd f 14 (0 : Int32)) 16 (0 : Int32)) a ((((a 2) (7 : Int32).toNatClampNeg) &&& p2) &&& (255 : Int32))) (cwV 1 hts gX5_alu_X5_signs rfl rfl rfl (by decide +kernel) ⟨Nat.le_of_ble_eq_true rfl, Nat.le_of_ble_eq_true rfl⟩) ⟨hx, hb, hml, hown, hts⟩ hK hP hD hS hA rfl rfl rfl [0, 1, 2, 3, 4, 5, 6] [] [0, 1, 2, 3, 4, 5, 6] (by decide) rfl (wr := []) rfl (by decide) (by decide) (by decide) rfl rfl hl.1 rfl (Nat.le_of_ble_eq_true rfl) dX5_alu_220 ⟨Nat.zero_le _, Nat.zero_le _⟩ (fun H locs hP hD hS => ?_)
                  refine lv_iload_n hx hb dX5_alu_223 rfl (lv_at hl 4 rfl) ?_
                  refine lv_bipush (v := 7) hx hb dX5_alu_224 (by decide) ?_
                  refine lv_icmp_ge (tgt := 242) hx hb dX5_alu_226 (by decide) (fun c_73 => ?_) (fun c_73 => ?_)
                  · have hF : rAlu f a p1 p2 = (rSigns (upd (upd f 14 (0 : Int32)) 16 (0 : Int32)) a ((((a 2) (7 : Int32).toNatClampNeg) &&& p2) &&& (255 : Int32)), a) := by simp only [rAlu, if_neg c_1, if_neg c_45, if_pos c_46, if_neg c_47, if_neg c_55, if_neg c_63, if_pos c_64, if_neg c_72, if_pos c_73]
                    rw [hF]
                    exact KC.retv hx hb hr hlocks hK hP hD hS dX5_alu_242
                  · refine lv_aload_n hx hb dX5_alu_229 rfl (lv_at hl 3 rfl) ?_
                    refine va_get (ci := 5) (v := .ref (o 23)) (C := RX5) (T := TX5) (N := 24) hx hb hts hi5 hown hK hP 0 rfl rfl 3 (by decide) (hts (.fieldLink RX5 16 "InvaderBoardModel" "reg" "[I") (by decide +kernel)) (fun _ h9 => h9) rfl dX5_alu_230 ?_
                    refine lv_bipush (v := 7) hx hb dX5_alu_233 (by decide) ?_
                    refine lv_iload hx hb dX5_alu_235 (lv_at hl 0 rfl) ?_
                    refine lv_sipush (v := 255) hx hb dX5_alu_237 (by decide) ?_
                    refine lv_iand hx hb dX5_alu_240 ?_
                    refine pu_R_a2 hx hb hK hP hD hS (by unfold vp_in; decide) dX5_alu_241 (fun H locs hP hD hS => ?_)
                    have hF : rAlu f a p1 p2 = (rSigns (upd (upd f 14 (0 : Int32)) 16 (0 : Int32)) a ((((a 2) (7 : Int32).toNatClampNeg) &&& p2) &&& (255 : Int32)), ua a 2 (upd (a 2) (7 : Int32).toNatClampNeg ((((a 2) (7 : Int32).toNatClampNeg) &&& p2) &&& (255 : Int32)))) := by simp only [rAlu, if_neg c_1, if_neg c_45, if_pos c_46, if_neg c_47, if_neg c_55, if_neg c_63, if_pos c_64, if_neg c_72, if_neg c_73]
                    rw [hF]
                    exact KC.retv hx hb hr hlocks hK hP hD hS dX5_alu_242
                · refine lv_iload_n hx hb dX5_alu_194 rfl (lv_at hl 2 rfl) ?_
                  refine lv_iload_n hx hb dX5_alu_195 rfl (lv_at hl 5 rfl) ?_
                  refine lv_ior hx hb dX5_alu_196 ?_
                  refine lv_iconst (v := 3) hx hb dX5_alu_197 (by decide) ?_
                  refine lv_ishr hx hb dX5_alu_198 ?_
                  refine lv_iconst (v := 1) hx hb dX5_alu_199 (by decide) ?_
                  refine lv_iand hx hb dX5_alu_200 ?_
                  refine lv_goto (tgt := 205) hx hb dX5_alu_201 (by decide) ?_
                  refine pu_R_f14 (v := ((((a 2) (7 : Int32).toNatClampNeg) ||| p2) >>> ((3 : Int32) &&& 31)) &&& (1 : Int32)) hx hb hts hi5 hown hK hP hD hS (hts (.fieldLink RX5 63 "InvaderBoardModel" "half" "I") (by decide +kernel)) dX5_alu_205 (fun H locs hP hD hS => ?_)
                  refine lv_aload_n hx hb dX5_alu_208 rfl (lv_at hl 3 rfl) ?_
                  refine lv_iconst (v := 0) hx hb dX5_alu_209 (by decide) ?_
                  refine pu_R_f16 (v := (0 : Int32)) hx hb hts hi5 hown hK hP hD hS (hts (.fieldLink RX5 66 "InvaderBoardModel" "carry" "I") (by decide +kernel)) dX5_alu_210 (fun H locs hP hD hS => ?_)
                  refine lv_aload_n hx hb dX5_alu_213 rfl (lv_at hl 3 rfl) ?_
                  refine lv_iload hx hb dX5_alu_214 (lv_at hl 0 rfl) ?_
                  refine lv_sipush (v := 255) hx hb dX5_alu_216 (by decide) ?_
                  refine lv_iand hx hb dX5_alu_219 ?_
                  refine KC.callv (ci := 5) (rest := []) (wt := wR cI o (rSigns (upd (upd f 14 (((((a 2) (7 : Int32).toNatClampNeg) ||| p2) >>> ((3 : Int32) &&& 31)) &&& (1 : Int32))) 16 (0 : Int32)) a ((((a 2) (7 : Int32).toNatClampNeg) &&& p2) &&& (255 : Int32))) a) (kX5_signs l D cI o (upd (upd f 14 (((((a 2) (7 : Int32).toNatClampNeg) ||| p2) >>> ((3 : Int32) &&& 31)) &&& (1 : Int32))) 16 (0 : Int32)) a ((((a 2) (7 : Int32).toNatClampNeg) &&& p2) &&& (255 : Int32))) (cwV 1 hts gX5_alu_X5_signs rfl rfl rfl (by decide +kernel) ⟨Nat.le_of_ble_eq_true rfl, Nat.le_of_ble_eq_true rfl⟩) ⟨hx, hb, hml, hown, hts⟩ hK hP hD hS hA rfl rfl rfl [0, 1, 2, 3, 4, 5, 6] [] [0, 1, 2, 3, 4, 5, 6] (by decide) rfl (wr := []) rfl (by decide) (by decide) (by decide) rfl rfl hl.1 rfl (Nat.le_of_ble_eq_true rfl) dX5_alu_220 ⟨Nat.zero_le _, Nat.zero_le _⟩ (fun H locs hP hD hS => ?_)
                  refine lv_iload_n hx hb dX5_alu_223 rfl (lv_at hl 4 rfl) ?_
                  refine lv_bipush (v := 7) hx hb dX5_alu_224 (by decide) ?_
                  refine lv_icmp_ge (tgt := 242) hx hb dX5_alu_226 (by decide) (fun c_74 => ?_) (fun c_74 => ?_)
                  · have hF : rAlu f a p1 p2 = (rSigns (upd (upd f 14 (((((a 2) (7 : Int32).toNatClampNeg) ||| p2) >>> ((3 : Int32) &&& 31)) &&& (1 : Int32))) 16 (0 : Int32)) a ((((a 2) (7 : Int32).toNatClampNeg) &&& p2) &&& (255 : Int32)), a) := by simp only [rAlu, if_neg c_1, if_neg c_45, if_pos c_46, if_neg c_47, if_neg c_55, if_neg c_63, if_pos c_64, if_pos c_72, if_pos c_74]
                    rw [hF]
                    exact KC.retv hx hb hr hlocks hK hP hD hS dX5_alu_242
                  · refine lv_aload_n hx hb dX5_alu_229 rfl (lv_at hl 3 rfl) ?_
                    refine va_get (ci := 5) (v := .ref (o 23)) (C := RX5) (T := TX5) (N := 24) hx hb hts hi5 hown hK hP 0 rfl rfl 3 (by decide) (hts (.fieldLink RX5 16 "InvaderBoardModel" "reg" "[I") (by decide +kernel)) (fun _ h9 => h9) rfl dX5_alu_230 ?_
                    refine lv_bipush (v := 7) hx hb dX5_alu_233 (by decide) ?_
                    refine lv_iload hx hb dX5_alu_235 (lv_at hl 0 rfl) ?_
                    refine lv_sipush (v := 255) hx hb dX5_alu_237 (by decide) ?_
                    refine lv_iand hx hb dX5_alu_240 ?_
                    refine pu_R_a2 hx hb hK hP hD hS (by unfold vp_in; decide) dX5_alu_241 (fun H locs hP hD hS => ?_)
                    have hF : rAlu f a p1 p2 = (rSigns (upd (upd f 14 (((((a 2) (7 : Int32).toNatClampNeg) ||| p2) >>> ((3 : Int32) &&& 31)) &&& (1 : Int32))) 16 (0 : Int32)) a ((((a 2) (7 : Int32).toNatClampNeg) &&& p2) &&& (255 : Int32)), ua a 2 (upd (a 2) (7 : Int32).toNatClampNeg ((((a 2) (7 : Int32).toNatClampNeg) &&& p2) &&& (255 : Int32)))) := by simp only [rAlu, if_neg c_1, if_neg c_45, if_pos c_46, if_neg c_47, if_neg c_55, if_neg c_63, if_pos c_64, if_pos c_72, if_neg c_74]
                    rw [hF]
                    exact KC.retv hx hb hr hlocks hK hP hD hS dX5_alu_242
            · refine lv_iload_n hx hb dX5_alu_106 rfl (lv_at hl 2 rfl) ?_
              refine lv_iload_n hx hb dX5_alu_107 rfl (lv_at hl 5 rfl) ?_
              refine lv_isub hx hb dX5_alu_108 ?_
              refine lv_iload hx hb dX5_alu_109 (lv_at hl 1 rfl) ?_
              refine lv_isub hx hb dX5_alu_111 ?_
              refine lv_istore (lv' := [(5, .int _), (4, .int _), (3, .int _), (0, .ref _), (1, .int _), (2, .int _)]) hx hb dX5_alu_112 hl (by decide) rfl (fun ls hl => ?_)
              refine lv_aload_n hx hb dX5_alu_114 rfl (lv_at hl 3 rfl) ?_
              refine lv_iload_n hx hb dX5_alu_115 rfl (lv_at hl 2 rfl) ?_
              refine lv_bipush (v := 15) hx hb dX5_alu_116 (by decide) ?_
              refine lv_iand hx hb dX5_alu_118 ?_
              refine lv_iload_n hx hb dX5_alu_119 rfl (lv_at hl 5 rfl) ?_
              refine lv_iconst (v := -1) hx hb dX5_alu_120 (by decide) ?_
              refine lv_ixor hx hb dX5_alu_121 ?_
              refine lv_bipush (v := 15) hx hb dX5_alu_122 (by decide) ?_
              refine lv_iand hx hb dX5_alu_124 ?_
              refine lv_iadd hx hb dX5_alu_125 ?_
              refine lv_iconst (v := 1) hx hb dX5_alu_126 (by decide) ?_
              refine lv_iadd hx hb dX5_alu_127 ?_
              refine lv_iload hx hb dX5_alu_128 (lv_at hl 1 rfl) ?_
              refine lv_isub hx hb dX5_alu_130 ?_
              refine lv_bipush (v := 15) hx hb dX5_alu_131 (by decide) ?_
              refine lv_icmp_le (tgt := 140) hx hb dX5_alu_133 (by decide) (fun c_75 => ?_) (fun c_75 => ?_)
              · refine lv_iconst (v := 0) hx hb dX5_alu_140 (by decide) ?_
                refine pu_R_f14 (v := (0 : Int32)) hx hb hts hi5 hown hK hP hD hS (hts (.fieldLink RX5 63 "InvaderBoardModel" "half" "I") (by decide +kernel)) dX5_alu_141 (fun H locs hP hD hS => ?_)
                refine lv_aload_n hx hb dX5_alu_144 rfl (lv_at hl 3 rfl) ?_
                refine lv_iload hx hb dX5_alu_145 (lv_at hl 0 rfl) ?_
                refine lv_if_ge (tgt := 154) hx hb dX5_alu_147 (by decide) (fun c_76 => ?_) (fun c_76 => ?_)
                · refine lv_iconst (v := 0) hx hb dX5_alu_154 (by decide) ?_
                  refine pu_R_f16 (v := (0 : Int32)) hx hb hts hi5 hown hK hP hD hS (hts (.fieldLink RX5 66 "InvaderBoardModel" "carry" "I") (by decide +kernel)) dX5_alu_155 (fun H locs hP hD hS => ?_)
                  refine lv_goto (tgt := 213) hx hb dX5_alu_158 (by decide) ?_
                  refine lv_aload_n hx hb dX5_alu_213 rfl (lv_at hl 3 rfl) ?_
                  refine lv_iload hx hb dX5_alu_214 (lv_at hl 0 rfl) ?_
                  refine lv_sipush (v := 255) hx hb dX5_alu_216 (by decide) ?_
                  refine lv_iand hx hb dX5_alu_219 ?_
                  refine KC.callv (ci := 5) (rest := []) (wt := wR cI o (rSigns (upd (upd f 14 (0 : Int32)) 16 (0 : Int32)) a (((((a 2) (7 : Int32).toNatClampNeg) - p2) - (0 : Int32)) &&& (255 : Int32))) a) (kX5_signs l D cI o (upd (upd f 14 (0 : Int32)) 16 (0 : Int32)) a (((((a 2) (7 : Int32).toNatClampNeg) - p2) - (0 : Int32)) &&& (255 : Int32))) (cwV 1 hts gX5_alu_X5_signs rfl rfl rfl (by decide +kernel) ⟨Nat.le_of_ble_eq_true rfl, Nat.le_of_ble_eq_true rfl⟩) ⟨hx, hb, hml, hown, hts⟩ hK hP hD hS hA rfl rfl rfl [0, 1, 2, 3, 4, 5, 6] [] [0, 1, 2, 3, 4, 5, 6] (by decide) rfl (wr := []) rfl (by decide) (by decide) (by decide) rfl rfl hl.1 rfl (Nat.le_of_ble_eq_true rfl) dX5_alu_220 ⟨Nat.zero_le _, Nat.zero_le _⟩ (fun H locs hP hD hS => ?_)
                  refine lv_iload_n hx hb dX5_alu_223 rfl (lv_at hl 4 rfl) ?_
                  refine lv_bipush (v := 7) hx hb dX5_alu_224 (by decide) ?_
                  refine lv_icmp_ge (tgt := 242) hx hb dX5_alu_226 (by decide) (fun c_77 => ?_) (fun c_77 => ?_)
                  · have hF : rAlu f a p1 p2 = (rSigns (upd (upd f 14 (0 : Int32)) 16 (0 : Int32)) a (((((a 2) (7 : Int32).toNatClampNeg) - p2) - (0 : Int32)) &&& (255 : Int32)), a) := by simp only [rAlu, if_neg c_1, if_neg c_45, if_pos c_46, if_neg c_47, if_neg c_55, if_pos c_63, if_pos c_75, if_pos c_76, if_pos c_77]
                    rw [hF]
                    exact KC.retv hx hb hr hlocks hK hP hD hS dX5_alu_242
                  · refine lv_aload_n hx hb dX5_alu_229 rfl (lv_at hl 3 rfl) ?_
                    refine va_get (ci := 5) (v := .ref (o 23)) (C := RX5) (T := TX5) (N := 24) hx hb hts hi5 hown hK hP 0 rfl rfl 3 (by decide) (hts (.fieldLink RX5 16 "InvaderBoardModel" "reg" "[I") (by decide +kernel)) (fun _ h9 => h9) rfl dX5_alu_230 ?_
                    refine lv_bipush (v := 7) hx hb dX5_alu_233 (by decide) ?_
                    refine lv_iload hx hb dX5_alu_235 (lv_at hl 0 rfl) ?_
                    refine lv_sipush (v := 255) hx hb dX5_alu_237 (by decide) ?_
                    refine lv_iand hx hb dX5_alu_240 ?_
                    refine pu_R_a2 hx hb hK hP hD hS (by unfold vp_in; decide) dX5_alu_241 (fun H locs hP hD hS => ?_)
                    have hF : rAlu f a p1 p2 = (rSigns (upd (upd f 14 (0 : Int32)) 16 (0 : Int32)) a (((((a 2) (7 : Int32).toNatClampNeg) - p2) - (0 : Int32)) &&& (255 : Int32)), ua a 2 (upd (a 2) (7 : Int32).toNatClampNeg (((((a 2) (7 : Int32).toNatClampNeg) - p2) - (0 : Int32)) &&& (255 : Int32)))) := by simp only [rAlu, if_neg c_1, if_neg c_45, if_pos c_46, if_neg c_47, if_neg c_55, if_pos c_63, if_pos c_75, if_pos c_76, if_neg c_77]
                    rw [hF]
                    exact KC.retv hx hb hr hlocks hK hP hD hS dX5_alu_242
                · refine lv_iconst (v := 1) hx hb dX5_alu_150 (by decide) ?_
                  refine lv_goto (tgt := 155) hx hb dX5_alu_151 (by decide) ?_
                  refine pu_R_f16 (v := (1 : Int32)) hx hb hts hi5 hown hK hP hD hS (hts (.fieldLink RX5 66 "InvaderBoardModel" "carry" "I") (by decide +kernel)) dX5_alu_155 (fun H locs hP hD hS => ?_)
                  refine lv_goto (tgt := 213) hx hb dX5_alu_158 (by decide) ?_
                  refine lv_aload_n hx hb dX5_alu_213 rfl (lv_at hl 3 rfl) ?_
                  refine lv_iload hx hb dX5_alu_214 (lv_at hl 0 rfl) ?_
                  refine lv_sipush (v := 255) hx hb dX5_alu_216 (by decide) ?_
                  refine lv_iand hx hb dX5_alu_219 ?_
                  refine KC.callv (ci := 5) (rest := []) (wt := wR cI o (rSigns (upd (upd f 14 (0 : Int32)) 16 (1 : Int32)) a (((((a 2) (7 : Int32).toNatClampNeg) - p2) - (0 : Int32)) &&& (255 : Int32))) a) (kX5_signs l D cI o (upd (upd f 14 (0 : Int32)) 16 (1 : Int32)) a (((((a 2) (7 : Int32).toNatClampNeg) - p2) - (0 : Int32)) &&& (255 : Int32))) (cwV 1 hts gX5_alu_X5_signs rfl rfl rfl (by decide +kernel) ⟨Nat.le_of_ble_eq_true rfl, Nat.le_of_ble_eq_true rfl⟩) ⟨hx, hb, hml, hown, hts⟩ hK hP hD hS hA rfl rfl rfl [0, 1, 2, 3, 4, 5, 6] [] [0, 1, 2, 3, 4, 5, 6] (by decide) rfl (wr := []) rfl (by decide) (by decide) (by decide) rfl rfl hl.1 rfl (Nat.le_of_ble_eq_true rfl) dX5_alu_220 ⟨Nat.zero_le _, Nat.zero_le _⟩ (fun H locs hP hD hS => ?_)
                  refine lv_iload_n hx hb dX5_alu_223 rfl (lv_at hl 4 rfl) ?_
                  refine lv_bipush (v := 7) hx hb dX5_alu_224 (by decide) ?_
                  refine lv_icmp_ge (tgt := 242) hx hb dX5_alu_226 (by decide) (fun c_78 => ?_) (fun c_78 => ?_)
                  · have hF : rAlu f a p1 p2 = (rSigns (upd (upd f 14 (0 : Int32)) 16 (1 : Int32)) a (((((a 2) (7 : Int32).toNatClampNeg) - p2) - (0 : Int32)) &&& (255 : Int32)), a) := by simp only [rAlu, if_neg c_1, if_neg c_45, if_pos c_46, if_neg c_47, if_neg c_55, if_pos c_63, if_pos c_75, if_neg c_76, if_pos c_78]
                    rw [hF]
                    exact KC.retv hx hb hr hlocks hK hP hD hS dX5_alu_242
                  · refine lv_aload_n hx hb dX5_alu_229 rfl (lv_at hl 3 rfl) ?_
                    refine va_get (ci := 5) (v := .ref (o 23)) (C := RX5) (T := TX5) (N := 24) hx hb hts hi5 hown hK hP 0 rfl rfl 3 (by decide) (hts (.fieldLink RX5 16 "InvaderBoardModel" "reg" "[I") (by decide +kernel)) (fun _ h9 => h9) rfl dX5_alu_230 ?_
                    refine lv_bipush (v := 7) hx hb dX5_alu_233 (by decide) ?_
                    refine lv_iload hx hb dX5_alu_235 (lv_at hl 0 rfl) ?_
                    refine lv_sipush (v := 255) hx hb dX5_alu_237 (by decide) ?_
                    refine lv_iand hx hb dX5_alu_240 ?_
                    refine pu_R_a2 hx hb hK hP hD hS (by unfold vp_in; decide) dX5_alu_241 (fun H locs hP hD hS => ?_)
                    have hF : rAlu f a p1 p2 = (rSigns (upd (upd f 14 (0 : Int32)) 16 (1 : Int32)) a (((((a 2) (7 : Int32).toNatClampNeg) - p2) - (0 : Int32)) &&& (255 : Int32)), ua a 2 (upd (a 2) (7 : Int32).toNatClampNeg (((((a 2) (7 : Int32).toNatClampNeg) - p2) - (0 : Int32)) &&& (255 : Int32)))) := by simp only [rAlu, if_neg c_1, if_neg c_45, if_pos c_46, if_neg c_47, if_neg c_55, if_pos c_63, if_pos c_75, if_neg c_76, if_neg c_78]
                    rw [hF]
                    exact KC.retv hx hb hr hlocks hK hP hD hS dX5_alu_242
              · refine lv_iconst (v := 1) hx hb dX5_alu_136 (by decide) ?_
                refine lv_goto (tgt := 141) hx hb dX5_alu_137 (by decide) ?_
                refine pu_R_f14 (v := (1 : Int32)) hx hb hts hi5 hown hK hP hD hS (hts (.fieldLink RX5 63 "InvaderBoardModel" "half" "I") (by decide +kernel)) dX5_alu_141 (fun H locs hP hD hS => ?_)
                refine lv_aload_n hx hb dX5_alu_144 rfl (lv_at hl 3 rfl) ?_
                refine lv_iload hx hb dX5_alu_145 (lv_at hl 0 rfl) ?_
                refine lv_if_ge (tgt := 154) hx hb dX5_alu_147 (by decide) (fun c_79 => ?_) (fun c_79 => ?_)
                · refine lv_iconst (v := 0) hx hb dX5_alu_154 (by decide) ?_
                  refine pu_R_f16 (v := (0 : Int32)) hx hb hts hi5 hown hK hP hD hS (hts (.fieldLink RX5 66 "InvaderBoardModel" "carry" "I") (by decide +kernel)) dX5_alu_155 (fun H locs hP hD hS => ?_)
                  refine lv_goto (tgt := 213) hx hb dX5_alu_158 (by decide) ?_
                  refine lv_aload_n hx hb dX5_alu_213 rfl (lv_at hl 3 rfl) ?_
                  refine lv_iload hx hb dX5_alu_214 (lv_at hl 0 rfl) ?_
                  refine lv_sipush (v := 255) hx hb dX5_alu_216 (by decide) ?_
                  refine lv_iand hx hb dX5_alu_219 ?_
                  refine KC.callv (ci := 5) (rest := []) (wt := wR cI o (rSigns (upd (upd f 14 (1 : Int32)) 16 (0 : Int32)) a (((((a 2) (7 : Int32).toNatClampNeg) - p2) - (0 : Int32)) &&& (255 : Int32))) a) (kX5_signs l D cI o (upd (upd f 14 (1 : Int32)) 16 (0 : Int32)) a (((((a 2) (7 : Int32).toNatClampNeg) - p2) - (0 : Int32)) &&& (255 : Int32))) (cwV 1 hts gX5_alu_X5_signs rfl rfl rfl (by decide +kernel) ⟨Nat.le_of_ble_eq_true rfl, Nat.le_of_ble_eq_true rfl⟩) ⟨hx, hb, hml, hown, hts⟩ hK hP hD hS hA rfl rfl rfl [0, 1, 2, 3, 4, 5, 6] [] [0, 1, 2, 3, 4, 5, 6] (by decide) rfl (wr := []) rfl (by decide) (by decide) (by decide) rfl rfl hl.1 rfl (Nat.le_of_ble_eq_true rfl) dX5_alu_220 ⟨Nat.zero_le _, Nat.zero_le _⟩ (fun H locs hP hD hS => ?_)
                  refine lv_iload_n hx hb dX5_alu_223 rfl (lv_at hl 4 rfl) ?_
                  refine lv_bipush (v := 7) hx hb dX5_alu_224 (by decide) ?_
                  refine lv_icmp_ge (tgt := 242) hx hb dX5_alu_226 (by decide) (fun c_80 => ?_) (fun c_80 => ?_)
                  · have hF : rAlu f a p1 p2 = (rSigns (upd (upd f 14 (1 : Int32)) 16 (0 : Int32)) a (((((a 2) (7 : Int32).toNatClampNeg) - p2) - (0 : Int32)) &&& (255 : Int32)), a) := by simp only [rAlu, if_neg c_1, if_neg c_45, if_pos c_46, if_neg c_47, if_neg c_55, if_pos c_63, if_neg c_75, if_pos c_79, if_pos c_80]
                    rw [hF]
                    exact KC.retv hx hb hr hlocks hK hP hD hS dX5_alu_242
                  · refine lv_aload_n hx hb dX5_alu_229 rfl (lv_at hl 3 rfl) ?_
                    refine va_get (ci := 5) (v := .ref (o 23)) (C := RX5) (T := TX5) (N := 24) hx hb hts hi5 hown hK hP 0 rfl rfl 3 (by decide) (hts (.fieldLink RX5 16 "InvaderBoardModel" "reg" "[I") (by decide +kernel)) (fun _ h9 => h9) rfl dX5_alu_230 ?_
                    refine lv_bipush (v := 7) hx hb dX5_alu_233 (by decide) ?_
                    refine lv_iload hx hb dX5_alu_235 (lv_at hl 0 rfl) ?_
                    refine lv_sipush (v := 255) hx hb dX5_alu_237 (by decide) ?_
                    refine lv_iand hx hb dX5_alu_240 ?_
                    refine pu_R_a2 hx hb hK hP hD hS (by unfold vp_in; decide) dX5_alu_241 (fun H locs hP hD hS => ?_)
                    have hF : rAlu f a p1 p2 = (rSigns (upd (upd f 14 (1 : Int32)) 16 (0 : Int32)) a (((((a 2) (7 : Int32).toNatClampNeg) - p2) - (0 : Int32)) &&& (255 : Int32)), ua a 2 (upd (a 2) (7 : Int32).toNatClampNeg (((((a 2) (7 : Int32).toNatClampNeg) - p2) - (0 : Int32)) &&& (255 : Int32)))) := by simp only [rAlu, if_neg c_1, if_neg c_45, if_pos c_46, if_neg c_47, if_neg c_55, if_pos c_63, if_neg c_75, if_pos c_79, if_neg c_80]
                    rw [hF]
                    exact KC.retv hx hb hr hlocks hK hP hD hS dX5_alu_242
                · refine lv_iconst (v := 1) hx hb dX5_alu_150 (by decide) ?_
                  refine lv_goto (tgt := 155) hx hb dX5_alu_151 (by decide) ?_
                  refine pu_R_f16 (v := (1 : Int32)) hx hb hts hi5 hown hK hP hD hS (hts (.fieldLink RX5 66 "InvaderBoardModel" "carry" "I") (by decide +kernel)) dX5_alu_155 (fun H locs hP hD hS => ?_)
                  refine lv_goto (tgt := 213) hx hb dX5_alu_158 (by decide) ?_
                  refine lv_aload_n hx hb dX5_alu_213 rfl (lv_at hl 3 rfl) ?_
                  refine lv_iload hx hb dX5_alu_214 (lv_at hl 0 rfl) ?_
                  refine lv_sipush (v := 255) hx hb dX5_alu_216 (by decide) ?_
                  refine lv_iand hx hb dX5_alu_219 ?_
                  refine KC.callv (ci := 5) (rest := []) (wt := wR cI o (rSigns (upd (upd f 14 (1 : Int32)) 16 (1 : Int32)) a (((((a 2) (7 : Int32).toNatClampNeg) - p2) - (0 : Int32)) &&& (255 : Int32))) a) (kX5_signs l D cI o (upd (upd f 14 (1 : Int32)) 16 (1 : Int32)) a (((((a 2) (7 : Int32).toNatClampNeg) - p2) - (0 : Int32)) &&& (255 : Int32))) (cwV 1 hts gX5_alu_X5_signs rfl rfl rfl (by decide +kernel) ⟨Nat.le_of_ble_eq_true rfl, Nat.le_of_ble_eq_true rfl⟩) ⟨hx, hb, hml, hown, hts⟩ hK hP hD hS hA rfl rfl rfl [0, 1, 2, 3, 4, 5, 6] [] [0, 1, 2, 3, 4, 5, 6] (by decide) rfl (wr := []) rfl (by decide) (by decide) (by decide) rfl rfl hl.1 rfl (Nat.le_of_ble_eq_true rfl) dX5_alu_220 ⟨Nat.zero_le _, Nat.zero_le _⟩ (fun H locs hP hD hS => ?_)
                  refine lv_iload_n hx hb dX5_alu_223 rfl (lv_at hl 4 rfl) ?_
                  refine lv_bipush (v := 7) hx hb dX5_alu_224 (by decide) ?_
                  refine lv_icmp_ge (tgt := 242) hx hb dX5_alu_226 (by decide) (fun c_81 => ?_) (fun c_81 => ?_)
                  · have hF : rAlu f a p1 p2 = (rSigns (upd (upd f 14 (1 : Int32)) 16 (1 : Int32)) a (((((a 2) (7 : Int32).toNatClampNeg) - p2) - (0 : Int32)) &&& (255 : Int32)), a) := by simp only [rAlu, if_neg c_1, if_neg c_45, if_pos c_46, if_neg c_47, if_neg c_55, if_pos c_63, if_neg c_75, if_neg c_79, if_pos c_81]
                    rw [hF]
                    exact KC.retv hx hb hr hlocks hK hP hD hS dX5_alu_242
                  · refine lv_aload_n hx hb dX5_alu_229 rfl (lv_at hl 3 rfl) ?_
                    refine va_get (ci := 5) (v := .ref (o 23)) (C := RX5) (T := TX5) (N := 24) hx hb hts hi5 hown hK hP 0 rfl rfl 3 (by decide) (hts (.fieldLink RX5 16 "InvaderBoardModel" "reg" "[I") (by decide +kernel)) (fun _ h9 => h9) rfl dX5_alu_230 ?_
                    refine lv_bipush (v := 7) hx hb dX5_alu_233 (by decide) ?_
                    refine lv_iload hx hb dX5_alu_235 (lv_at hl 0 rfl) ?_
                    refine lv_sipush (v := 255) hx hb dX5_alu_237 (by decide) ?_
                    refine lv_iand hx hb dX5_alu_240 ?_
                    refine pu_R_a2 hx hb hK hP hD hS (by unfold vp_in; decide) dX5_alu_241 (fun H locs hP hD hS => ?_)
                    have hF : rAlu f a p1 p2 = (rSigns (upd (upd f 14 (1 : Int32)) 16 (1 : Int32)) a (((((a 2) (7 : Int32).toNatClampNeg) - p2) - (0 : Int32)) &&& (255 : Int32)), ua a 2 (upd (a 2) (7 : Int32).toNatClampNeg (((((a 2) (7 : Int32).toNatClampNeg) - p2) - (0 : Int32)) &&& (255 : Int32)))) := by simp only [rAlu, if_neg c_1, if_neg c_45, if_pos c_46, if_neg c_47, if_neg c_55, if_pos c_63, if_neg c_75, if_neg c_79, if_neg c_81]
                    rw [hF]
                    exact KC.retv hx hb hr hlocks hK hP hD hS dX5_alu_242
      · refine lv_iload_n hx hb dX5_alu_36 rfl (lv_at hl 2 rfl) ?_
        refine lv_iload_n hx hb dX5_alu_37 rfl (lv_at hl 5 rfl) ?_
        refine lv_iadd hx hb dX5_alu_38 ?_
        refine lv_iload hx hb dX5_alu_39 (lv_at hl 1 rfl) ?_
        refine lv_iadd hx hb dX5_alu_41 ?_
        refine lv_istore (lv' := [(5, .int _), (4, .int _), (3, .int _), (0, .ref _), (1, .int _), (2, .int _)]) hx hb dX5_alu_42 hl (by decide) rfl (fun ls hl => ?_)
        refine lv_aload_n hx hb dX5_alu_44 rfl (lv_at hl 3 rfl) ?_
        refine lv_iload_n hx hb dX5_alu_45 rfl (lv_at hl 2 rfl) ?_
        refine lv_bipush (v := 15) hx hb dX5_alu_46 (by decide) ?_
        refine lv_iand hx hb dX5_alu_48 ?_
        refine lv_iload_n hx hb dX5_alu_49 rfl (lv_at hl 5 rfl) ?_
        refine lv_bipush (v := 15) hx hb dX5_alu_50 (by decide) ?_
        refine lv_iand hx hb dX5_alu_52 ?_
        refine lv_iadd hx hb dX5_alu_53 ?_
        refine lv_iload hx hb dX5_alu_54 (lv_at hl 1 rfl) ?_
        refine lv_iadd hx hb dX5_alu_56 ?_
        refine lv_bipush (v := 15) hx hb dX5_alu_57 (by decide) ?_
        refine lv_icmp_le (tgt := 66) hx hb dX5_alu_59 (by decide) (fun c_82 => ?_) (fun c_82 => ?_)
        · refine lv_iconst (v := 0) hx hb dX5_alu_66 (by decide) ?_
          refine pu_R_f14 (v := (0 : Int32)) hx hb hts hi5 hown hK hP hD hS (hts (.fieldLink RX5 63 "InvaderBoardModel" "half" "I") (by decide +kernel)) dX5_alu_67 (fun H locs hP hD hS => ?_)
          refine lv_aload_n hx hb dX5_alu_70 rfl (lv_at hl 3 rfl) ?_
          refine lv_iload hx hb dX5_alu_71 (lv_at hl 0 rfl) ?_
          refine lv_sipush (v := 255) hx hb dX5_alu_73 (by decide) ?_
          refine lv_icmp_le (tgt := 83) hx hb dX5_alu_76 (by decide) (fun c_83 => ?_) (fun c_83 => ?_)
          · refine lv_iconst (v := 0) hx hb dX5_alu_83 (by decide) ?_
            refine pu_R_f16 (v := (0 : Int32)) hx hb hts hi5 hown hK hP hD hS (hts (.fieldLink RX5 66 "InvaderBoardModel" "carry" "I") (by decide +kernel)) dX5_alu_84 (fun H locs hP hD hS => ?_)
            refine lv_goto (tgt := 213) hx hb dX5_alu_87 (by decide) ?_
            refine lv_aload_n hx hb dX5_alu_213 rfl (lv_at hl 3 rfl) ?_
            refine lv_iload hx hb dX5_alu_214 (lv_at hl 0 rfl) ?_
            refine lv_sipush (v := 255) hx hb dX5_alu_216 (by decide) ?_
            refine lv_iand hx hb dX5_alu_219 ?_
            refine KC.callv (ci := 5) (rest := []) (wt := wR cI o (rSigns (upd (upd f 14 (0 : Int32)) 16 (0 : Int32)) a (((((a 2) (7 : Int32).toNatClampNeg) + p2) + (0 : Int32)) &&& (255 : Int32))) a) (kX5_signs l D cI o (upd (upd f 14 (0 : Int32)) 16 (0 : Int32)) a (((((a 2) (7 : Int32).toNatClampNeg) + p2) + (0 : Int32)) &&& (255 : Int32))) (cwV 1 hts gX5_alu_X5_signs rfl rfl rfl (by decide +kernel) ⟨Nat.le_of_ble_eq_true rfl, Nat.le_of_ble_eq_true rfl⟩) ⟨hx, hb, hml, hown, hts⟩ hK hP hD hS hA rfl rfl rfl [0, 1, 2, 3, 4, 5, 6] [] [0, 1, 2, 3, 4, 5, 6] (by decide) rfl (wr := []) rfl (by decide) (by decide) (by decide) rfl rfl hl.1 rfl (Nat.le_of_ble_eq_true rfl) dX5_alu_220 ⟨Nat.zero_le _, Nat.zero_le _⟩ (fun H locs hP hD hS => ?_)
            refine lv_iload_n hx hb dX5_alu_223 rfl (lv_at hl 4 rfl) ?_
            refine lv_bipush (v := 7) hx hb dX5_alu_224 (by decide) ?_
            refine lv_icmp_ge (tgt := 242) hx hb dX5_alu_226 (by decide) (fun c_84 => ?_) (fun c_84 => ?_)
            · have hF : rAlu f a p1 p2 = (rSigns (upd (upd f 14 (0 : Int32)) 16 (0 : Int32)) a (((((a 2) (7 : Int32).toNatClampNeg) + p2) + (0 : Int32)) &&& (255 : Int32)), a) := by simp only [rAlu, if_neg c_1, if_neg c_45, if_neg c_46, if_pos c_82, if_pos c_83, if_pos c_84]
              rw [hF]
              exact KC.retv hx hb hr hlocks hK hP hD hS dX5_alu_242
            · refine lv_aload_n hx hb dX5_alu_229 rfl (lv_at hl 3 rfl) ?_
              refine va_get (ci := 5) (v := .ref (o 23)) (C := RX5) (T := TX5) (N := 24) hx hb hts hi5 hown hK hP 0 rfl rfl 3 (by decide) (hts (.fieldLink RX5 16 "InvaderBoardModel" "reg" "[I") (by decide +kernel)) (fun _ h9 => h9) rfl dX5_alu_230 ?_
              refine lv_bipush (v := 7) hx hb dX5_alu_233 (by decide) ?_
              refine lv_iload hx hb dX5_alu_235 (lv_at hl 0 rfl) ?_
              refine lv_sipush (v := 255) hx hb dX5_alu_237 (by decide) ?_
              refine lv_iand hx hb dX5_alu_240 ?_
              refine pu_R_a2 hx hb hK hP hD hS (by unfold vp_in; decide) dX5_alu_241 (fun H locs hP hD hS => ?_)
              have hF : rAlu f a p1 p2 = (rSigns (upd (upd f 14 (0 : Int32)) 16 (0 : Int32)) a (((((a 2) (7 : Int32).toNatClampNeg) + p2) + (0 : Int32)) &&& (255 : Int32)), ua a 2 (upd (a 2) (7 : Int32).toNatClampNeg (((((a 2) (7 : Int32).toNatClampNeg) + p2) + (0 : Int32)) &&& (255 : Int32)))) := by simp only [rAlu, if_neg c_1, if_neg c_45, if_neg c_46, if_pos c_82, if_pos c_83, if_neg c_84]
              rw [hF]
              exact KC.retv hx hb hr hlocks hK hP hD hS dX5_alu_242
          · refine lv_iconst (v := 1) hx hb dX5_alu_79 (by decide) ?_
            refine lv_goto (tgt := 84) hx hb dX5_alu_80 (by decide) ?_
            refine pu_R_f16 (v := (1 : Int32)) hx hb hts hi5 hown hK hP hD hS (hts (.fieldLink RX5 66 "InvaderBoardModel" "carry" "I") (by decide +kernel)) dX5_alu_84 (fun H locs hP hD hS => ?_)
            refine lv_goto (tgt := 213) hx hb dX5_alu_87 (by decide) ?_
            refine lv_aload_n hx hb dX5_alu_213 rfl (lv_at hl 3 rfl) ?_
            refine lv_iload hx hb dX5_alu_214 (lv_at hl 0 rfl) ?_
            refine lv_sipush (v := 255) hx hb dX5_alu_216 (by decide) ?_
            refine lv_iand hx hb dX5_alu_219 ?_
            refine KC.callv (ci := 5) (rest := []) (wt := wR cI o (rSigns (upd (upd f 14 (0 : Int32)) 16 (1 : Int32)) a (((((a 2) (7 : Int32).toNatClampNeg) + p2) + (0 : Int32)) &&& (255 : Int32))) a) (kX5_signs l D cI o (upd (upd f 14 (0 : Int32)) 16 (1 : Int32)) a (((((a 2) (7 : Int32).toNatClampNeg) + p2) + (0 : Int32)) &&& (255 : Int32))) (cwV 1 hts gX5_alu_X5_signs rfl rfl rfl (by decide +kernel) ⟨Nat.le_of_ble_eq_true rfl, Nat.le_of_ble_eq_true rfl⟩) ⟨hx, hb, hml, hown, hts⟩ hK hP hD hS hA rfl rfl rfl [0, 1, 2, 3, 4, 5, 6] [] [0, 1, 2, 3, 4, 5, 6] (by decide) rfl (wr := []) rfl (by decide) (by decide) (by decide) rfl rfl hl.1 rfl (Nat.le_of_ble_eq_true rfl) dX5_alu_220 ⟨Nat.zero_le _, Nat.zero_le _⟩ (fun H locs hP hD hS => ?_)
            refine lv_iload_n hx hb dX5_alu_223 rfl (lv_at hl 4 rfl) ?_
            refine lv_bipush (v := 7) hx hb dX5_alu_224 (by decide) ?_
            refine lv_icmp_ge (tgt := 242) hx hb dX5_alu_226 (by decide) (fun c_85 => ?_) (fun c_85 => ?_)
            · have hF : rAlu f a p1 p2 = (rSigns (upd (upd f 14 (0 : Int32)) 16 (1 : Int32)) a (((((a 2) (7 : Int32).toNatClampNeg) + p2) + (0 : Int32)) &&& (255 : Int32)), a) := by simp only [rAlu, if_neg c_1, if_neg c_45, if_neg c_46, if_pos c_82, if_neg c_83, if_pos c_85]
              rw [hF]
              exact KC.retv hx hb hr hlocks hK hP hD hS dX5_alu_242
            · refine lv_aload_n hx hb dX5_alu_229 rfl (lv_at hl 3 rfl) ?_
              refine va_get (ci := 5) (v := .ref (o 23)) (C := RX5) (T := TX5) (N := 24) hx hb hts hi5 hown hK hP 0 rfl rfl 3 (by decide) (hts (.fieldLink RX5 16 "InvaderBoardModel" "reg" "[I") (by decide +kernel)) (fun _ h9 => h9) rfl dX5_alu_230 ?_
              refine lv_bipush (v := 7) hx hb dX5_alu_233 (by decide) ?_
              refine lv_iload hx hb dX5_alu_235 (lv_at hl 0 rfl) ?_
              refine lv_sipush (v := 255) hx hb dX5_alu_237 (by decide) ?_
              refine lv_iand hx hb dX5_alu_240 ?_
              refine pu_R_a2 hx hb hK hP hD hS (by unfold vp_in; decide) dX5_alu_241 (fun H locs hP hD hS => ?_)
              have hF : rAlu f a p1 p2 = (rSigns (upd (upd f 14 (0 : Int32)) 16 (1 : Int32)) a (((((a 2) (7 : Int32).toNatClampNeg) + p2) + (0 : Int32)) &&& (255 : Int32)), ua a 2 (upd (a 2) (7 : Int32).toNatClampNeg (((((a 2) (7 : Int32).toNatClampNeg) + p2) + (0 : Int32)) &&& (255 : Int32)))) := by simp only [rAlu, if_neg c_1, if_neg c_45, if_neg c_46, if_pos c_82, if_neg c_83, if_neg c_85]
              rw [hF]
              exact KC.retv hx hb hr hlocks hK hP hD hS dX5_alu_242
        · refine lv_iconst (v := 1) hx hb dX5_alu_62 (by decide) ?_
          refine lv_goto (tgt := 67) hx hb dX5_alu_63 (by decide) ?_
          refine pu_R_f14 (v := (1 : Int32)) hx hb hts hi5 hown hK hP hD hS (hts (.fieldLink RX5 63 "InvaderBoardModel" "half" "I") (by decide +kernel)) dX5_alu_67 (fun H locs hP hD hS => ?_)
          refine lv_aload_n hx hb dX5_alu_70 rfl (lv_at hl 3 rfl) ?_
          refine lv_iload hx hb dX5_alu_71 (lv_at hl 0 rfl) ?_
          refine lv_sipush (v := 255) hx hb dX5_alu_73 (by decide) ?_
          refine lv_icmp_le (tgt := 83) hx hb dX5_alu_76 (by decide) (fun c_86 => ?_) (fun c_86 => ?_)
          · refine lv_iconst (v := 0) hx hb dX5_alu_83 (by decide) ?_
            refine pu_R_f16 (v := (0 : Int32)) hx hb hts hi5 hown hK hP hD hS (hts (.fieldLink RX5 66 "InvaderBoardModel" "carry" "I") (by decide +kernel)) dX5_alu_84 (fun H locs hP hD hS => ?_)
            refine lv_goto (tgt := 213) hx hb dX5_alu_87 (by decide) ?_
            refine lv_aload_n hx hb dX5_alu_213 rfl (lv_at hl 3 rfl) ?_
            refine lv_iload hx hb dX5_alu_214 (lv_at hl 0 rfl) ?_
            refine lv_sipush (v := 255) hx hb dX5_alu_216 (by decide) ?_
            refine lv_iand hx hb dX5_alu_219 ?_
            refine KC.callv (ci := 5) (rest := []) (wt := wR cI o (rSigns (upd (upd f 14 (1 : Int32)) 16 (0 : Int32)) a (((((a 2) (7 : Int32).toNatClampNeg) + p2) + (0 : Int32)) &&& (255 : Int32))) a) (kX5_signs l D cI o (upd (upd f 14 (1 : Int32)) 16 (0 : Int32)) a (((((a 2) (7 : Int32).toNatClampNeg) + p2) + (0 : Int32)) &&& (255 : Int32))) (cwV 1 hts gX5_alu_X5_signs rfl rfl rfl (by decide +kernel) ⟨Nat.le_of_ble_eq_true rfl, Nat.le_of_ble_eq_true rfl⟩) ⟨hx, hb, hml, hown, hts⟩ hK hP hD hS hA rfl rfl rfl [0, 1, 2, 3, 4, 5, 6] [] [0, 1, 2, 3, 4, 5, 6] (by decide) rfl (wr := []) rfl (by decide) (by decide) (by decide) rfl rfl hl.1 rfl (Nat.le_of_ble_eq_true rfl) dX5_alu_220 ⟨Nat.zero_le _, Nat.zero_le _⟩ (fun H locs hP hD hS => ?_)
            refine lv_iload_n hx hb dX5_alu_223 rfl (lv_at hl 4 rfl) ?_
            refine lv_bipush (v := 7) hx hb dX5_alu_224 (by decide) ?_
            refine lv_icmp_ge (tgt := 242) hx hb dX5_alu_226 (by decide) (fun c_87 => ?_) (fun c_87 => ?_)
            · have hF : rAlu f a p1 p2 = (rSigns (upd (upd f 14 (1 : Int32)) 16 (0 : Int32)) a (((((a 2) (7 : Int32).toNatClampNeg) + p2) + (0 : Int32)) &&& (255 : Int32)), a) := by simp only [rAlu, if_neg c_1, if_neg c_45, if_neg c_46, if_neg c_82, if_pos c_86, if_pos c_87]
              rw [hF]
              exact KC.retv hx hb hr hlocks hK hP hD hS dX5_alu_242
            · refine lv_aload_n hx hb dX5_alu_229 rfl (lv_at hl 3 rfl) ?_
              refine va_get (ci := 5) (v := .ref (o 23)) (C := RX5) (T := TX5) (N := 24) hx hb hts hi5 hown hK hP 0 rfl rfl 3 (by decide) (hts (.fieldLink RX5 16 "InvaderBoardModel" "reg" "[I") (by decide +kernel)) (fun _ h9 => h9) rfl dX5_alu_230 ?_
              refine lv_bipush (v := 7) hx hb dX5_alu_233 (by decide) ?_
              refine lv_iload hx hb dX5_alu_235 (lv_at hl 0 rfl) ?_
              refine lv_sipush (v := 255) hx hb dX5_alu_237 (by decide) ?_
              refine lv_iand hx hb dX5_alu_240 ?_
              refine pu_R_a2 hx hb hK hP hD hS (by unfold vp_in; decide) dX5_alu_241 (fun H locs hP hD hS => ?_)
              have hF : rAlu f a p1 p2 = (rSigns (upd (upd f 14 (1 : Int32)) 16 (0 : Int32)) a (((((a 2) (7 : Int32).toNatClampNeg) + p2) + (0 : Int32)) &&& (255 : Int32)), ua a 2 (upd (a 2) (7 : Int32).toNatClampNeg (((((a 2) (7 : Int32).toNatClampNeg) + p2) + (0 : Int32)) &&& (255 : Int32)))) := by simp only [rAlu, if_neg c_1, if_neg c_45, if_neg c_46, if_neg c_82, if_pos c_86, if_neg c_87]
              rw [hF]
              exact KC.retv hx hb hr hlocks hK hP hD hS dX5_alu_242
          · refine lv_iconst (v := 1) hx hb dX5_alu_79 (by decide) ?_
            refine lv_goto (tgt := 84) hx hb dX5_alu_80 (by decide) ?_
            refine pu_R_f16 (v := (1 : Int32)) hx hb hts hi5 hown hK hP hD hS (hts (.fieldLink RX5 66 "InvaderBoardModel" "carry" "I") (by decide +kernel)) dX5_alu_84 (fun H locs hP hD hS => ?_)
            refine lv_goto (tgt := 213) hx hb dX5_alu_87 (by decide) ?_
            refine lv_aload_n hx hb dX5_alu_213 rfl (lv_at hl 3 rfl) ?_
            refine lv_iload hx hb dX5_alu_214 (lv_at hl 0 rfl) ?_
            refine lv_sipush (v := 255) hx hb dX5_alu_216 (by decide) ?_
            refine lv_iand hx hb dX5_alu_219 ?_
            refine KC.callv (ci := 5) (rest := []) (wt := wR cI o (rSigns (upd (upd f 14 (1 : Int32)) 16 (1 : Int32)) a (((((a 2) (7 : Int32).toNatClampNeg) + p2) + (0 : Int32)) &&& (255 : Int32))) a) (kX5_signs l D cI o (upd (upd f 14 (1 : Int32)) 16 (1 : Int32)) a (((((a 2) (7 : Int32).toNatClampNeg) + p2) + (0 : Int32)) &&& (255 : Int32))) (cwV 1 hts gX5_alu_X5_signs rfl rfl rfl (by decide +kernel) ⟨Nat.le_of_ble_eq_true rfl, Nat.le_of_ble_eq_true rfl⟩) ⟨hx, hb, hml, hown, hts⟩ hK hP hD hS hA rfl rfl rfl [0, 1, 2, 3, 4, 5, 6] [] [0, 1, 2, 3, 4, 5, 6] (by decide) rfl (wr := []) rfl (by decide) (by decide) (by decide) rfl rfl hl.1 rfl (Nat.le_of_ble_eq_true rfl) dX5_alu_220 ⟨Nat.zero_le _, Nat.zero_le _⟩ (fun H locs hP hD hS => ?_)
            refine lv_iload_n hx hb dX5_alu_223 rfl (lv_at hl 4 rfl) ?_
            refine lv_bipush (v := 7) hx hb dX5_alu_224 (by decide) ?_
            refine lv_icmp_ge (tgt := 242) hx hb dX5_alu_226 (by decide) (fun c_88 => ?_) (fun c_88 => ?_)
            · have hF : rAlu f a p1 p2 = (rSigns (upd (upd f 14 (1 : Int32)) 16 (1 : Int32)) a (((((a 2) (7 : Int32).toNatClampNeg) + p2) + (0 : Int32)) &&& (255 : Int32)), a) := by simp only [rAlu, if_neg c_1, if_neg c_45, if_neg c_46, if_neg c_82, if_neg c_86, if_pos c_88]
              rw [hF]
              exact KC.retv hx hb hr hlocks hK hP hD hS dX5_alu_242
            · refine lv_aload_n hx hb dX5_alu_229 rfl (lv_at hl 3 rfl) ?_
              refine va_get (ci := 5) (v := .ref (o 23)) (C := RX5) (T := TX5) (N := 24) hx hb hts hi5 hown hK hP 0 rfl rfl 3 (by decide) (hts (.fieldLink RX5 16 "InvaderBoardModel" "reg" "[I") (by decide +kernel)) (fun _ h9 => h9) rfl dX5_alu_230 ?_
              refine lv_bipush (v := 7) hx hb dX5_alu_233 (by decide) ?_
              refine lv_iload hx hb dX5_alu_235 (lv_at hl 0 rfl) ?_
              refine lv_sipush (v := 255) hx hb dX5_alu_237 (by decide) ?_
              refine lv_iand hx hb dX5_alu_240 ?_
              refine pu_R_a2 hx hb hK hP hD hS (by unfold vp_in; decide) dX5_alu_241 (fun H locs hP hD hS => ?_)
              have hF : rAlu f a p1 p2 = (rSigns (upd (upd f 14 (1 : Int32)) 16 (1 : Int32)) a (((((a 2) (7 : Int32).toNatClampNeg) + p2) + (0 : Int32)) &&& (255 : Int32)), ua a 2 (upd (a 2) (7 : Int32).toNatClampNeg (((((a 2) (7 : Int32).toNatClampNeg) + p2) + (0 : Int32)) &&& (255 : Int32)))) := by simp only [rAlu, if_neg c_1, if_neg c_45, if_neg c_46, if_neg c_82, if_neg c_86, if_neg c_88]
              rw [hF]
              exact KC.retv hx hb hr hlocks hK hP hD hS dX5_alu_242
    · refine lv_aload_n hx hb dX5_alu_18 rfl (lv_at hl 1 rfl) ?_
      refine va_get (ci := 5) (v := .int (f 16)) (C := RX5) (T := TX5) (N := 24) hx hb hts hi5 hown hK hP 0 rfl rfl 10 (by decide) (hts (.fieldLink RX5 66 "InvaderBoardModel" "carry" "I") (by decide +kernel)) (fun _ h9 => h9) rfl dX5_alu_19 ?_
      refine lv_goto (tgt := 26) hx hb dX5_alu_22 (by decide) ?_
      refine lv_istore (lv' := [(4, .int _), (3, .int _), (0, .ref _), (1, .int _), (2, .int _)]) hx hb dX5_alu_26 hl (by decide) rfl (fun ls hl => ?_)
      refine lv_iload_n hx hb dX5_alu_28 rfl (lv_at hl 1 rfl) ?_
      refine lv_istore (lv' := [(5, .int _), (4, .int _), (3, .int _), (0, .ref _), (1, .int _), (2, .int _)]) hx hb dX5_alu_29 hl (by decide) rfl (fun ls hl => ?_)
      refine lv_iload_n hx hb dX5_alu_31 rfl (lv_at hl 4 rfl) ?_
      refine lv_iconst (v := 2) hx hb dX5_alu_32 (by decide) ?_
      refine lv_icmp_ge (tgt := 90) hx hb dX5_alu_33 (by decide) (fun c_89 => ?_) (fun c_89 => ?_)
      · refine lv_iload_n hx hb dX5_alu_90 rfl (lv_at hl 4 rfl) ?_
        refine lv_iconst (v := 2) hx hb dX5_alu_91 (by decide) ?_
        refine lv_icmp_eq (tgt := 106) hx hb dX5_alu_92 (by decide) (fun c_90 => ?_) (fun c_90 => ?_)
        · refine lv_iload_n hx hb dX5_alu_106 rfl (lv_at hl 2 rfl) ?_
          refine lv_iload_n hx hb dX5_alu_107 rfl (lv_at hl 5 rfl) ?_
          refine lv_isub hx hb dX5_alu_108 ?_
          refine lv_iload hx hb dX5_alu_109 (lv_at hl 1 rfl) ?_
          refine lv_isub hx hb dX5_alu_111 ?_
          refine lv_istore (lv' := [(5, .int _), (4, .int _), (3, .int _), (0, .ref _), (1, .int _), (2, .int _)]) hx hb dX5_alu_112 hl (by decide) rfl (fun ls hl => ?_)
          refine lv_aload_n hx hb dX5_alu_114 rfl (lv_at hl 3 rfl) ?_
          refine lv_iload_n hx hb dX5_alu_115 rfl (lv_at hl 2 rfl) ?_
          refine lv_bipush (v := 15) hx hb dX5_alu_116 (by decide) ?_
          refine lv_iand hx hb dX5_alu_118 ?_
          refine lv_iload_n hx hb dX5_alu_119 rfl (lv_at hl 5 rfl) ?_
          refine lv_iconst (v := -1) hx hb dX5_alu_120 (by decide) ?_
          refine lv_ixor hx hb dX5_alu_121 ?_
          refine lv_bipush (v := 15) hx hb dX5_alu_122 (by decide) ?_
          refine lv_iand hx hb dX5_alu_124 ?_
          refine lv_iadd hx hb dX5_alu_125 ?_
          refine lv_iconst (v := 1) hx hb dX5_alu_126 (by decide) ?_
          refine lv_iadd hx hb dX5_alu_127 ?_
          refine lv_iload hx hb dX5_alu_128 (lv_at hl 1 rfl) ?_
          refine lv_isub hx hb dX5_alu_130 ?_
          refine lv_bipush (v := 15) hx hb dX5_alu_131 (by decide) ?_
          refine lv_icmp_le (tgt := 140) hx hb dX5_alu_133 (by decide) (fun c_91 => ?_) (fun c_91 => ?_)
          · refine lv_iconst (v := 0) hx hb dX5_alu_140 (by decide) ?_
            refine pu_R_f14 (v := (0 : Int32)) hx hb hts hi5 hown hK hP hD hS (hts (.fieldLink RX5 63 "InvaderBoardModel" "half" "I") (by decide +kernel)) dX5_alu_141 (fun H locs hP hD hS => ?_)
            refine lv_aload_n hx hb dX5_alu_144 rfl (lv_at hl 3 rfl) ?_
            refine lv_iload hx hb dX5_alu_145 (lv_at hl 0 rfl) ?_
            refine lv_if_ge (tgt := 154) hx hb dX5_alu_147 (by decide) (fun c_92 => ?_) (fun c_92 => ?_)
            · refine lv_iconst (v := 0) hx hb dX5_alu_154 (by decide) ?_
              refine pu_R_f16 (v := (0 : Int32)) hx hb hts hi5 hown hK hP hD hS (hts (.fieldLink RX5 66 "InvaderBoardModel" "carry" "I") (by decide +kernel)) dX5_alu_155 (fun H locs hP hD hS => ?_)
              refine lv_goto (tgt := 213) hx hb dX5_alu_158 (by decide) ?_
              refine lv_aload_n hx hb dX5_alu_213 rfl (lv_at hl 3 rfl) ?_
              refine lv_iload hx hb dX5_alu_214 (lv_at hl 0 rfl) ?_
              refine lv_sipush (v := 255) hx hb dX5_alu_216 (by decide) ?_
              refine lv_iand hx hb dX5_alu_219 ?_
              refine KC.callv (ci := 5) (rest := []) (wt := wR cI o (rSigns (upd (upd f 14 (0 : Int32)) 16 (0 : Int32)) a (((((a 2) (7 : Int32).toNatClampNeg) - p2) - (f 16)) &&& (255 : Int32))) a) (kX5_signs l D cI o (upd (upd f 14 (0 : Int32)) 16 (0 : Int32)) a (((((a 2) (7 : Int32).toNatClampNeg) - p2) - (f 16)) &&& (255 : Int32))) (cwV 1 hts gX5_alu_X5_signs rfl rfl rfl (by decide +kernel) ⟨Nat.le_of_ble_eq_true rfl, Nat.le_of_ble_eq_true rfl⟩) ⟨hx, hb, hml, hown, hts⟩ hK hP hD hS hA rfl rfl rfl [0, 1, 2, 3, 4, 5, 6] [] [0, 1, 2, 3, 4, 5, 6] (by decide) rfl (wr := []) rfl (by decide) (by decide) (by decide) rfl rfl hl.1 rfl (Nat.le_of_ble_eq_true rfl) dX5_alu_220 ⟨Nat.zero_le _, Nat.zero_le _⟩ (fun H locs hP hD hS => ?_)
              refine lv_iload_n hx hb dX5_alu_223 rfl (lv_at hl 4 rfl) ?_
              refine lv_bipush (v := 7) hx hb dX5_alu_224 (by decide) ?_
              refine lv_icmp_ge (tgt := 242) hx hb dX5_alu_226 (by decide) (fun c_93 => ?_) (fun c_93 => ?_)
              · have hF : rAlu f a p1 p2 = (rSigns (upd (upd f 14 (0 : Int32)) 16 (0 : Int32)) a (((((a 2) (7 : Int32).toNatClampNeg) - p2) - (f 16)) &&& (255 : Int32)), a) := by simp only [rAlu, if_neg c_1, if_pos c_45, if_pos c_89, if_pos c_90, if_pos c_91, if_pos c_92, if_pos c_93]
                rw [hF]
                exact KC.retv hx hb hr hlocks hK hP hD hS dX5_alu_242
              · refine lv_aload_n hx hb dX5_alu_229 rfl (lv_at hl 3 rfl) ?_
                refine va_get (ci := 5) (v := .ref (o 23)) (C := RX5) (T := TX5) (N := 24) hx hb hts hi5 hown hK hP 0 rfl rfl 3 (by decide) (hts (.fieldLink RX5 16 "InvaderBoardModel" "reg" "[I") (by decide +kernel)) (fun _ h9 => h9) rfl dX5_alu_230 ?_
                refine lv_bipush (v := 7) hx hb dX5_alu_233 (by decide) ?_
                refine lv_iload hx hb dX5_alu_235 (lv_at hl 0 rfl) ?_
                refine lv_sipush (v := 255) hx hb dX5_alu_237 (by decide) ?_
                refine lv_iand hx hb dX5_alu_240 ?_
                refine pu_R_a2 hx hb hK hP hD hS (by unfold vp_in; decide) dX5_alu_241 (fun H locs hP hD hS => ?_)
                have hF : rAlu f a p1 p2 = (rSigns (upd (upd f 14 (0 : Int32)) 16 (0 : Int32)) a (((((a 2) (7 : Int32).toNatClampNeg) - p2) - (f 16)) &&& (255 : Int32)), ua a 2 (upd (a 2) (7 : Int32).toNatClampNeg (((((a 2) (7 : Int32).toNatClampNeg) - p2) - (f 16)) &&& (255 : Int32)))) := by simp only [rAlu, if_neg c_1, if_pos c_45, if_pos c_89, if_pos c_90, if_pos c_91, if_pos c_92, if_neg c_93]
                rw [hF]
                exact KC.retv hx hb hr hlocks hK hP hD hS dX5_alu_242
            · refine lv_iconst (v := 1) hx hb dX5_alu_150 (by decide) ?_
              refine lv_goto (tgt := 155) hx hb dX5_alu_151 (by decide) ?_
              refine pu_R_f16 (v := (1 : Int32)) hx hb hts hi5 hown hK hP hD hS (hts (.fieldLink RX5 66 "InvaderBoardModel" "carry" "I") (by decide +kernel)) dX5_alu_155 (fun H locs hP hD hS => ?_)
              refine lv_goto (tgt := 213) hx hb dX5_alu_158 (by decide) ?_
              refine lv_aload_n hx hb dX5_alu_213 rfl (lv_at hl 3 rfl) ?_
              refine lv_iload hx hb dX5_alu_214 (lv_at hl 0 rfl) ?_
              refine lv_sipush (v := 255) hx hb dX5_alu_216 (by decide) ?_
              refine lv_iand hx hb dX5_alu_219 ?_
              refine KC.callv (ci := 5) (rest := []) (wt := wR cI o (rSigns (upd (upd f 14 (0 : Int32)) 16 (1 : Int32)) a (((((a 2) (7 : Int32).toNatClampNeg) - p2) - (f 16)) &&& (255 : Int32))) a) (kX5_signs l D cI o (upd (upd f 14 (0 : Int32)) 16 (1 : Int32)) a (((((a 2) (7 : Int32).toNatClampNeg) - p2) - (f 16)) &&& (255 : Int32))) (cwV 1 hts gX5_alu_X5_signs rfl rfl rfl (by decide +kernel) ⟨Nat.le_of_ble_eq_true rfl, Nat.le_of_ble_eq_true rfl⟩) ⟨hx, hb, hml, hown, hts⟩ hK hP hD hS hA rfl rfl rfl [0, 1, 2, 3, 4, 5, 6] [] [0, 1, 2, 3, 4, 5, 6] (by decide) rfl (wr := []) rfl (by decide) (by decide) (by decide) rfl rfl hl.1 rfl (Nat.le_of_ble_eq_true rfl) dX5_alu_220 ⟨Nat.zero_le _, Nat.zero_le _⟩ (fun H locs hP hD hS => ?_)
              refine lv_iload_n hx hb dX5_alu_223 rfl (lv_at hl 4 rfl) ?_
              refine lv_bipush (v := 7) hx hb dX5_alu_224 (by decide) ?_
              refine lv_icmp_ge (tgt := 242) hx hb dX5_alu_226 (by decide) (fun c_94 => ?_) (fun c_94 => ?_)
              · have hF : rAlu f a p1 p2 = (rSigns (upd (upd f 14 (0 : Int32)) 16 (1 : Int32)) a (((((a 2) (7 : Int32).toNatClampNeg) - p2) - (f 16)) &&& (255 : Int32)), a) := by simp only [rAlu, if_neg c_1, if_pos c_45, if_pos c_89, if_pos c_90, if_pos c_91, if_neg c_92, if_pos c_94]
                rw [hF]
                exact KC.retv hx hb hr hlocks hK hP hD hS dX5_alu_242
              · refine lv_aload_n hx hb dX5_alu_229 rfl (lv_at hl 3 rfl) ?_
                refine va_get (ci := 5) (v := .ref (o 23)) (C := RX5) (T := TX5) (N := 24) hx hb hts hi5 hown hK hP 0 rfl rfl 3 (by decide) (hts (.fieldLink RX5 16 "InvaderBoardModel" "reg" "[I") (by decide +kernel)) (fun _ h9 => h9) rfl dX5_alu_230 ?_
                refine lv_bipush (v := 7) hx hb dX5_alu_233 (by decide) ?_
                refine lv_iload hx hb dX5_alu_235 (lv_at hl 0 rfl) ?_
                refine lv_sipush (v := 255) hx hb dX5_alu_237 (by decide) ?_
                refine lv_iand hx hb dX5_alu_240 ?_
                refine pu_R_a2 hx hb hK hP hD hS (by unfold vp_in; decide) dX5_alu_241 (fun H locs hP hD hS => ?_)
                have hF : rAlu f a p1 p2 = (rSigns (upd (upd f 14 (0 : Int32)) 16 (1 : Int32)) a (((((a 2) (7 : Int32).toNatClampNeg) - p2) - (f 16)) &&& (255 : Int32)), ua a 2 (upd (a 2) (7 : Int32).toNatClampNeg (((((a 2) (7 : Int32).toNatClampNeg) - p2) - (f 16)) &&& (255 : Int32)))) := by simp only [rAlu, if_neg c_1, if_pos c_45, if_pos c_89, if_pos c_90, if_pos c_91, if_neg c_92, if_neg c_94]
                rw [hF]
                exact KC.retv hx hb hr hlocks hK hP hD hS dX5_alu_242
          · refine lv_iconst (v := 1) hx hb dX5_alu_136 (by decide) ?_
            refine lv_goto (tgt := 141) hx hb dX5_alu_137 (by decide) ?_
            refine pu_R_f14 (v := (1 : Int32)) hx hb hts hi5 hown hK hP hD hS (hts (.fieldLink RX5 63 "InvaderBoardModel" "half" "I") (by decide +kernel)) dX5_alu_141 (fun H locs hP hD hS => ?_)
            refine lv_aload_n hx hb dX5_alu_144 rfl (lv_at hl 3 rfl) ?_
            refine lv_iload hx hb dX5_alu_145 (lv_at hl 0 rfl) ?_
            refine lv_if_ge (tgt := 154) hx hb dX5_alu_147 (by decide) (fun c_95 => ?_) (fun c_95 => ?_)
            · refine lv_iconst (v := 0) hx hb dX5_alu_154 (by decide) ?_
              refine pu_R_f16 (v := (0 : Int32)) hx hb hts hi5 hown hK hP hD hS (hts (.fieldLink RX5 66 "InvaderBoardModel" "carry" "I") (by decide +kernel)) dX5_alu_155 (fun H locs hP hD hS => ?_)
              refine lv_goto (tgt := 213) hx hb dX5_alu_158 (by decide) ?_
              refine lv_aload_n hx hb dX5_alu_213 rfl (lv_at hl 3 rfl) ?_
              refine lv_iload hx hb dX5_alu_214 (lv_at hl 0 rfl) ?_
              refine lv_sipush (v := 255) hx hb dX5_alu_216 (by decide) ?_
              refine lv_iand hx hb dX5_alu_219 ?_
              refine KC.callv (ci := 5) (rest := []) (wt := wR cI o (rSigns (upd (upd f 14 (1 : Int32)) 16 (0 : Int32)) a (((((a 2) (7 : Int32).toNatClampNeg) - p2) - (f 16)) &&& (255 : Int32))) a) (kX5_signs l D cI o (upd (upd f 14 (1 : Int32)) 16 (0 : Int32)) a (((((a 2) (7 : Int32).toNatClampNeg) - p2) - (f 16)) &&& (255 : Int32))) (cwV 1 hts gX5_alu_X5_signs rfl rfl rfl (by decide +kernel) ⟨Nat.le_of_ble_eq_true rfl, Nat.le_of_ble_eq_true rfl⟩) ⟨hx, hb, hml, hown, hts⟩ hK hP hD hS hA rfl rfl rfl [0, 1, 2, 3, 4, 5, 6] [] [0, 1, 2, 3, 4, 5, 6] (by decide) rfl (wr := []) rfl (by decide) (by decide) (by decide) rfl rfl hl.1 rfl (Nat.le_of_ble_eq_true rfl) dX5_alu_220 ⟨Nat.zero_le _, Nat.zero_le _⟩ (fun H locs hP hD hS => ?_)
              refine lv_iload_n hx hb dX5_alu_223 rfl (lv_at hl 4 rfl) ?_
              refine lv_bipush (v := 7) hx hb dX5_alu_224 (by decide) ?_
              refine lv_icmp_ge (tgt := 242) hx hb dX5_alu_226 (by decide) (fun c_96 => ?_) (fun c_96 => ?_)
              · have hF : rAlu f a p1 p2 = (rSigns (upd (upd f 14 (1 : Int32)) 16 (0 : Int32)) a (((((a 2) (7 : Int32).toNatClampNeg) - p2) - (f 16)) &&& (255 : Int32)), a) := by simp only [rAlu, if_neg c_1, if_pos c_45, if_pos c_89, if_pos c_90, if_neg c_91, if_pos c_95, if_pos c_96]
                rw [hF]
                exact KC.retv hx hb hr hlocks hK hP hD hS dX5_alu_242
              · refine lv_aload_n hx hb dX5_alu_229 rfl (lv_at hl 3 rfl) ?_
                refine va_get (ci := 5) (v := .ref (o 23)) (C := RX5) (T := TX5) (N := 24) hx hb hts hi5 hown hK hP 0 rfl rfl 3 (by decide) (hts (.fieldLink RX5 16 "InvaderBoardModel" "reg" "[I") (by decide +kernel)) (fun _ h9 => h9) rfl dX5_alu_230 ?_
                refine lv_bipush (v := 7) hx hb dX5_alu_233 (by decide) ?_
                refine lv_iload hx hb dX5_alu_235 (lv_at hl 0 rfl) ?_
                refine lv_sipush (v := 255) hx hb dX5_alu_237 (by decide) ?_
                refine lv_iand hx hb dX5_alu_240 ?_
                refine pu_R_a2 hx hb hK hP hD hS (by unfold vp_in; decide) dX5_alu_241 (fun H locs hP hD hS => ?_)
                have hF : rAlu f a p1 p2 = (rSigns (upd (upd f 14 (1 : Int32)) 16 (0 : Int32)) a (((((a 2) (7 : Int32).toNatClampNeg) - p2) - (f 16)) &&& (255 : Int32)), ua a 2 (upd (a 2) (7 : Int32).toNatClampNeg (((((a 2) (7 : Int32).toNatClampNeg) - p2) - (f 16)) &&& (255 : Int32)))) := by simp only [rAlu, if_neg c_1, if_pos c_45, if_pos c_89, if_pos c_90, if_neg c_91, if_pos c_95, if_neg c_96]
                rw [hF]
                exact KC.retv hx hb hr hlocks hK hP hD hS dX5_alu_242
            · refine lv_iconst (v := 1) hx hb dX5_alu_150 (by decide) ?_
              refine lv_goto (tgt := 155) hx hb dX5_alu_151 (by decide) ?_
              refine pu_R_f16 (v := (1 : Int32)) hx hb hts hi5 hown hK hP hD hS (hts (.fieldLink RX5 66 "InvaderBoardModel" "carry" "I") (by decide +kernel)) dX5_alu_155 (fun H locs hP hD hS => ?_)
              refine lv_goto (tgt := 213) hx hb dX5_alu_158 (by decide) ?_
              refine lv_aload_n hx hb dX5_alu_213 rfl (lv_at hl 3 rfl) ?_
              refine lv_iload hx hb dX5_alu_214 (lv_at hl 0 rfl) ?_
              refine lv_sipush (v := 255) hx hb dX5_alu_216 (by decide) ?_
              refine lv_iand hx hb dX5_alu_219 ?_
              refine KC.callv (ci := 5) (rest := []) (wt := wR cI o (rSigns (upd (upd f 14 (1 : Int32)) 16 (1 : Int32)) a (((((a 2) (7 : Int32).toNatClampNeg) - p2) - (f 16)) &&& (255 : Int32))) a) (kX5_signs l D cI o (upd (upd f 14 (1 : Int32)) 16 (1 : Int32)) a (((((a 2) (7 : Int32).toNatClampNeg) - p2) - (f 16)) &&& (255 : Int32))) (cwV 1 hts gX5_alu_X5_signs rfl rfl rfl (by decide +kernel) ⟨Nat.le_of_ble_eq_true rfl, Nat.le_of_ble_eq_true rfl⟩) ⟨hx, hb, hml, hown, hts⟩ hK hP hD hS hA rfl rfl rfl [0, 1, 2, 3, 4, 5, 6] [] [0, 1, 2, 3, 4, 5, 6] (by decide) rfl (wr := []) rfl (by decide) (by decide) (by decide) rfl rfl hl.1 rfl (Nat.le_of_ble_eq_true rfl) dX5_alu_220 ⟨Nat.zero_le _, Nat.zero_le _⟩ (fun H locs hP hD hS => ?_)
              refine lv_iload_n hx hb dX5_alu_223 rfl (lv_at hl 4 rfl) ?_
              refine lv_bipush (v := 7) hx hb dX5_alu_224 (by decide) ?_
              refine lv_icmp_ge (tgt := 242) hx hb dX5_alu_226 (by decide) (fun c_97 => ?_) (fun c_97 => ?_)
              · have hF : rAlu f a p1 p2 = (rSigns (upd (upd f 14 (1 : Int32)) 16 (1 : Int32)) a (((((a 2) (7 : Int32).toNatClampNeg) - p2) - (f 16)) &&& (255 : Int32)), a) := by simp only [rAlu, if_neg c_1, if_pos c_45, if_pos c_89, if_pos c_90, if_neg c_91, if_neg c_95, if_pos c_97]
                rw [hF]
                exact KC.retv hx hb hr hlocks hK hP hD hS dX5_alu_242
              · refine lv_aload_n hx hb dX5_alu_229 rfl (lv_at hl 3 rfl) ?_
                refine va_get (ci := 5) (v := .ref (o 23)) (C := RX5) (T := TX5) (N := 24) hx hb hts hi5 hown hK hP 0 rfl rfl 3 (by decide) (hts (.fieldLink RX5 16 "InvaderBoardModel" "reg" "[I") (by decide +kernel)) (fun _ h9 => h9) rfl dX5_alu_230 ?_
                refine lv_bipush (v := 7) hx hb dX5_alu_233 (by decide) ?_
                refine lv_iload hx hb dX5_alu_235 (lv_at hl 0 rfl) ?_
                refine lv_sipush (v := 255) hx hb dX5_alu_237 (by decide) ?_
                refine lv_iand hx hb dX5_alu_240 ?_
                refine pu_R_a2 hx hb hK hP hD hS (by unfold vp_in; decide) dX5_alu_241 (fun H locs hP hD hS => ?_)
                have hF : rAlu f a p1 p2 = (rSigns (upd (upd f 14 (1 : Int32)) 16 (1 : Int32)) a (((((a 2) (7 : Int32).toNatClampNeg) - p2) - (f 16)) &&& (255 : Int32)), ua a 2 (upd (a 2) (7 : Int32).toNatClampNeg (((((a 2) (7 : Int32).toNatClampNeg) - p2) - (f 16)) &&& (255 : Int32)))) := by simp only [rAlu, if_neg c_1, if_pos c_45, if_pos c_89, if_pos c_90, if_neg c_91, if_neg c_95, if_neg c_97]
                rw [hF]
                exact KC.retv hx hb hr hlocks hK hP hD hS dX5_alu_242
        · refine lv_iload_n hx hb dX5_alu_95 rfl (lv_at hl 4 rfl) ?_
          refine lv_iconst (v := 3) hx hb dX5_alu_96 (by decide) ?_
          refine lv_icmp_eq (tgt := 106) hx hb dX5_alu_97 (by decide) (fun c_98 => ?_) (fun c_98 => ?_)
          · refine lv_iload_n hx hb dX5_alu_106 rfl (lv_at hl 2 rfl) ?_
            refine lv_iload_n hx hb dX5_alu_107 rfl (lv_at hl 5 rfl) ?_
            refine lv_isub hx hb dX5_alu_108 ?_
            refine lv_iload hx hb dX5_alu_109 (lv_at hl 1 rfl) ?_
            refine lv_isub hx hb dX5_alu_111 ?_
            refine lv_istore (lv' := [(5, .int _), (4, .int _), (3, .int _), (0, .ref _), (1, .int _), (2, .int _)]) hx hb dX5_alu_112 hl (by decide) rfl (fun ls hl => ?_)
            refine lv_aload_n hx hb dX5_alu_114 rfl (lv_at hl 3 rfl) ?_
            refine lv_iload_n hx hb dX5_alu_115 rfl (lv_at hl 2 rfl) ?_
            refine lv_bipush (v := 15) hx hb dX5_alu_116 (by decide) ?_
            refine lv_iand hx hb dX5_alu_118 ?_
            refine lv_iload_n hx hb dX5_alu_119 rfl (lv_at hl 5 rfl) ?_
            refine lv_iconst (v := -1) hx hb dX5_alu_120 (by decide) ?_
            refine lv_ixor hx hb dX5_alu_121 ?_
            refine lv_bipush (v := 15) hx hb dX5_alu_122 (by decide) ?_
            refine lv_iand hx hb dX5_alu_124 ?_
            refine lv_iadd hx hb dX5_alu_125 ?_
            refine lv_iconst (v := 1) hx hb dX5_alu_126 (by decide) ?_
            refine lv_iadd hx hb dX5_alu_127 ?_
            refine lv_iload hx hb dX5_alu_128 (lv_at hl 1 rfl) ?_
            refine lv_isub hx hb dX5_alu_130 ?_
            refine lv_bipush (v := 15) hx hb dX5_alu_131 (by decide) ?_
            refine lv_icmp_le (tgt := 140) hx hb dX5_alu_133 (by decide) (fun c_99 => ?_) (fun c_99 => ?_)
            · refine lv_iconst (v := 0) hx hb dX5_alu_140 (by decide) ?_
              refine pu_R_f14 (v := (0 : Int32)) hx hb hts hi5 hown hK hP hD hS (hts (.fieldLink RX5 63 "InvaderBoardModel" "half" "I") (by decide +kernel)) dX5_alu_141 (fun H locs hP hD hS => ?_)
              refine lv_aload_n hx hb dX5_alu_144 rfl (lv_at hl 3 rfl) ?_
              refine lv_iload hx hb dX5_alu_145 (lv_at hl 0 rfl) ?_
              refine lv_if_ge (tgt := 154) hx hb dX5_alu_147 (by decide) (fun c_100 => ?_) (fun c_100 => ?_)
              · refine lv_iconst (v := 0) hx hb dX5_alu_154 (by decide) ?_
                refine pu_R_f16 (v := (0 : Int32)) hx hb hts hi5 hown hK hP hD hS (hts (.fieldLink RX5 66 "InvaderBoardModel" "carry" "I") (by decide +kernel)) dX5_alu_155 (fun H locs hP hD hS => ?_)
                refine lv_goto (tgt := 213) hx hb dX5_alu_158 (by decide) ?_
                refine lv_aload_n hx hb dX5_alu_213 rfl (lv_at hl 3 rfl) ?_
                refine lv_iload hx hb dX5_alu_214 (lv_at hl 0 rfl) ?_
                refine lv_sipush (v := 255) hx hb dX5_alu_216 (by decide) ?_
                refine lv_iand hx hb dX5_alu_219 ?_
                refine KC.callv (ci := 5) (rest := []) (wt := wR cI o (rSigns (upd (upd f 14 (0 : Int32)) 16 (0 : Int32)) a (((((a 2) (7 : Int32).toNatClampNeg) - p2) - (f 16)) &&& (255 : Int32))) a) (kX5_signs l D cI o (upd (upd f 14 (0 : Int32)) 16 (0 : Int32)) a (((((a 2) (7 : Int32).toNatClampNeg) - p2) - (f 16)) &&& (255 : Int32))) (cwV 1 hts gX5_alu_X5_signs rfl rfl rfl (by decide +kernel) ⟨Nat.le_of_ble_eq_true rfl, Nat.le_of_ble_eq_true rfl⟩) ⟨hx, hb, hml, hown, hts⟩ hK hP hD hS hA rfl rfl rfl [0, 1, 2, 3, 4, 5, 6] [] [0, 1, 2, 3, 4, 5, 6] (by decide) rfl (wr := []) rfl (by decide) (by decide) (by decide) rfl rfl hl.1 rfl (Nat.le_of_ble_eq_true rfl) dX5_alu_220 ⟨Nat.zero_le _, Nat.zero_le _⟩ (fun H locs hP hD hS => ?_)
                refine lv_iload_n hx hb dX5_alu_223 rfl (lv_at hl 4 rfl) ?_
                refine lv_bipush (v := 7) hx hb dX5_alu_224 (by decide) ?_
                refine lv_icmp_ge (tgt := 242) hx hb dX5_alu_226 (by decide) (fun c_101 => ?_) (fun c_101 => ?_)
                · have hF : rAlu f a p1 p2 = (rSigns (upd (upd f 14 (0 : Int32)) 16 (0 : Int32)) a (((((a 2) (7 : Int32).toNatClampNeg) - p2) - (f 16)) &&& (255 : Int32)), a) := by simp only [rAlu, if_neg c_1, if_pos c_45, if_pos c_89, if_neg c_90, if_pos c_98, if_pos c_99, if_pos c_100, if_pos c_101]
                  rw [hF]
                  exact KC.retv hx hb hr hlocks hK hP hD hS dX5_alu_242
                · refine lv_aload_n hx hb dX5_alu_229 rfl (lv_at hl 3 rfl) ?_
                  refine va_get (ci := 5) (v := .ref (o 23)) (C := RX5) (T := TX5) (N := 24) hx hb hts hi5 hown hK hP 0 rfl rfl 3 (by decide) (hts (.fieldLink RX5 16 "InvaderBoardModel" "reg" "[I") (by decide +kernel)) (fun _ h9 => h9) rfl dX5_alu_230 ?_
                  refine lv_bipush (v := 7) hx hb dX5_alu_233 (by decide) ?_
                  refine lv_iload hx hb dX5_alu_235 (lv_at hl 0 rfl) ?_
                  refine lv_sipush (v := 255) hx hb dX5_alu_237 (by decide) ?_
                  refine lv_iand hx hb dX5_alu_240 ?_
                  refine pu_R_a2 hx hb hK hP hD hS (by unfold vp_in; decide) dX5_alu_241 (fun H locs hP hD hS => ?_)
                  have hF : rAlu f a p1 p2 = (rSigns (upd (upd f 14 (0 : Int32)) 16 (0 : Int32)) a (((((a 2) (7 : Int32).toNatClampNeg) - p2) - (f 16)) &&& (255 : Int32)), ua a 2 (upd (a 2) (7 : Int32).toNatClampNeg (((((a 2) (7 : Int32).toNatClampNeg) - p2) - (f 16)) &&& (255 : Int32)))) := by simp only [rAlu, if_neg c_1, if_pos c_45, if_pos c_89, if_neg c_90, if_pos c_98, if_pos c_99, if_pos c_100, if_neg c_101]
                  rw [hF]
                  exact KC.retv hx hb hr hlocks hK hP hD hS dX5_alu_242
              · refine lv_iconst (v := 1) hx hb dX5_alu_150 (by decide) ?_
                refine lv_goto (tgt := 155) hx hb dX5_alu_151 (by decide) ?_
                refine pu_R_f16 (v := (1 : Int32)) hx hb hts hi5 hown hK hP hD hS (hts (.fieldLink RX5 66 "InvaderBoardModel" "carry" "I") (by decide +kernel)) dX5_alu_155 (fun H locs hP hD hS => ?_)
                refine lv_goto (tgt := 213) hx hb dX5_alu_158 (by decide) ?_
                refine lv_aload_n hx hb dX5_alu_213 rfl (lv_at hl 3 rfl) ?_
                refine lv_iload hx hb dX5_alu_214 (lv_at hl 0 rfl) ?_
                refine lv_sipush (v := 255) hx hb dX5_alu_216 (by decide) ?_
                refine lv_iand hx hb dX5_alu_219 ?_
                refine KC.callv (ci := 5) (rest := []) (wt := wR cI o (rSigns (upd (upd f 14 (0 : Int32)) 16 (1 : Int32)) a (((((a 2) (7 : Int32).toNatClampNeg) - p2) - (f 16)) &&& (255 : Int32))) a) (kX5_signs l D cI o (upd (upd f 14 (0 : Int32)) 16 (1 : Int32)) a (((((a 2) (7 : Int32).toNatClampNeg) - p2) - (f 16)) &&& (255 : Int32))) (cwV 1 hts gX5_alu_X5_signs rfl rfl rfl (by decide +kernel) ⟨Nat.le_of_ble_eq_true rfl, Nat.le_of_ble_eq_true rfl⟩) ⟨hx, hb, hml, hown, hts⟩ hK hP hD hS hA rfl rfl rfl [0, 1, 2, 3, 4, 5, 6] [] [0, 1, 2, 3, 4, 5, 6] (by decide) rfl (wr := []) rfl (by decide) (by decide) (by decide) rfl rfl hl.1 rfl (Nat.le_of_ble_eq_true rfl) dX5_alu_220 ⟨Nat.zero_le _, Nat.zero_le _⟩ (fun H locs hP hD hS => ?_)
                refine lv_iload_n hx hb dX5_alu_223 rfl (lv_at hl 4 rfl) ?_
                refine lv_bipush (v := 7) hx hb dX5_alu_224 (by decide) ?_
                refine lv_icmp_ge (tgt := 242) hx hb dX5_alu_226 (by decide) (fun c_102 => ?_) (fun c_102 => ?_)
                · have hF : rAlu f a p1 p2 = (rSigns (upd (upd f 14 (0 : Int32)) 16 (1 : Int32)) a (((((a 2) (7 : Int32).toNatClampNeg) - p2) - (f 16)) &&& (255 : Int32)), a) := by simp only [rAlu, if_neg c_1, if_pos c_45, if_pos c_89, if_neg c_90, if_pos c_98, if_pos c_99, if_neg c_100, if_pos c_102]
                  rw [hF]
                  exact KC.retv hx hb hr hlocks hK hP hD hS dX5_alu_242
                · refine lv_aload_n hx hb dX5_alu_229 rfl (lv_at hl 3 rfl) ?_
                  refine va_get (ci := 5) (v := .ref (o 23)) (C := RX5) (T := TX5) (N := 24) hx hb hts hi5 hown hK hP 0 rfl rfl 3 (by decide) (hts (.fieldLink RX5 16 "InvaderBoardModel" "reg" "[I") (by decide +kernel)) (fun _ h9 => h9) rfl dX5_alu_230 ?_
                  refine lv_bipush (v := 7) hx hb dX5_alu_233 (by decide) ?_
                  refine lv_iload hx hb dX5_alu_235 (lv_at hl 0 rfl) ?_
                  refine lv_sipush (v := 255) hx hb dX5_alu_237 (by decide) ?_
                  refine lv_iand hx hb dX5_alu_240 ?_
                  refine pu_R_a2 hx hb hK hP hD hS (by unfold vp_in; decide) dX5_alu_241 (fun H locs hP hD hS => ?_)
                  have hF : rAlu f a p1 p2 = (rSigns (upd (upd f 14 (0 : Int32)) 16 (1 : Int32)) a (((((a 2) (7 : Int32).toNatClampNeg) - p2) - (f 16)) &&& (255 : Int32)), ua a 2 (upd (a 2) (7 : Int32).toNatClampNeg (((((a 2) (7 : Int32).toNatClampNeg) - p2) - (f 16)) &&& (255 : Int32)))) := by simp only [rAlu, if_neg c_1, if_pos c_45, if_pos c_89, if_neg c_90, if_pos c_98, if_pos c_99, if_neg c_100, if_neg c_102]
                  rw [hF]
                  exact KC.retv hx hb hr hlocks hK hP hD hS dX5_alu_242
            · refine lv_iconst (v := 1) hx hb dX5_alu_136 (by decide) ?_
              refine lv_goto (tgt := 141) hx hb dX5_alu_137 (by decide) ?_
              refine pu_R_f14 (v := (1 : Int32)) hx hb hts hi5 hown hK hP hD hS (hts (.fieldLink RX5 63 "InvaderBoardModel" "half" "I") (by decide +kernel)) dX5_alu_141 (fun H locs hP hD hS => ?_)
              refine lv_aload_n hx hb dX5_alu_144 rfl (lv_at hl 3 rfl) ?_
              refine lv_iload hx hb dX5_alu_145 (lv_at hl 0 rfl) ?_
              refine lv_if_ge (tgt := 154) hx hb dX5_alu_147 (by decide) (fun c_103 => ?_) (fun c_103 => ?_)
              · refine lv_iconst (v := 0) hx hb dX5_alu_154 (by decide) ?_
                refine pu_R_f16 (v := (0 : Int32)) hx hb hts hi5 hown hK hP hD hS (hts (.fieldLink RX5 66 "InvaderBoardModel" "carry" "I") (by decide +kernel)) dX5_alu_155 (fun H locs hP hD hS => ?_)
                refine lv_goto (tgt := 213) hx hb dX5_alu_158 (by decide) ?_
                refine lv_aload_n hx hb dX5_alu_213 rfl (lv_at hl 3 rfl) ?_
                refine lv_iload hx hb dX5_alu_214 (lv_at hl 0 rfl) ?_
                refine lv_sipush (v := 255) hx hb dX5_alu_216 (by decide) ?_
                refine lv_iand hx hb dX5_alu_219 ?_
                refine KC.callv (ci := 5) (rest := []) (wt := wR cI o (rSigns (upd (upd f 14 (1 : Int32)) 16 (0 : Int32)) a (((((a 2) (7 : Int32).toNatClampNeg) - p2) - (f 16)) &&& (255 : Int32))) a) (kX5_signs l D cI o (upd (upd f 14 (1 : Int32)) 16 (0 : Int32)) a (((((a 2) (7 : Int32).toNatClampNeg) - p2) - (f 16)) &&& (255 : Int32))) (cwV 1 hts gX5_alu_X5_signs rfl rfl rfl (by decide +kernel) ⟨Nat.le_of_ble_eq_true rfl, Nat.le_of_ble_eq_true rfl⟩) ⟨hx, hb, hml, hown, hts⟩ hK hP hD hS hA rfl rfl rfl [0, 1, 2, 3, 4, 5, 6] [] [0, 1, 2, 3, 4, 5, 6] (by decide) rfl (wr := []) rfl (by decide) (by decide) (by decide) rfl rfl hl.1 rfl (Nat.le_of_ble_eq_true rfl) dX5_alu_220 ⟨Nat.zero_le _, Nat.zero_le _⟩ (fun H locs hP hD hS => ?_)
                refine lv_iload_n hx hb dX5_alu_223 rfl (lv_at hl 4 rfl) ?_
                refine lv_bipush (v := 7) hx hb dX5_alu_224 (by decide) ?_
                refine lv_icmp_ge (tgt := 242) hx hb dX5_alu_226 (by decide) (fun c_104 => ?_) (fun c_104 => ?_)
                · have hF : rAlu f a p1 p2 = (rSigns (upd (upd f 14 (1 : Int32)) 16 (0 : Int32)) a (((((a 2) (7 : Int32).toNatClampNeg) - p2) - (f 16)) &&& (255 : Int32)), a) := by simp only [rAlu, if_neg c_1, if_pos c_45, if_pos c_89, if_neg c_90, if_pos c_98, if_neg c_99, if_pos c_103, if_pos c_104]
                  rw [hF]
                  exact KC.retv hx hb hr hlocks hK hP hD hS dX5_alu_242
                · refine lv_aload_n hx hb dX5_alu_229 rfl (lv_at hl 3 rfl) ?_
                  refine va_get (ci := 5) (v := .ref (o 23)) (C := RX5) (T := TX5) (N := 24) hx hb hts hi5 hown hK hP 0 rfl rfl 3 (by decide) (hts (.fieldLink RX5 16 "InvaderBoardModel" "reg" "[I") (by decide +kernel)) (fun _ h9 => h9) rfl dX5_alu_230 ?_
                  refine lv_bipush (v := 7) hx hb dX5_alu_233 (by decide) ?_
                  refine lv_iload hx hb dX5_alu_235 (lv_at hl 0 rfl) ?_
                  refine lv_sipush (v := 255) hx hb dX5_alu_237 (by decide) ?_
                  refine lv_iand hx hb dX5_alu_240 ?_
                  refine pu_R_a2 hx hb hK hP hD hS (by unfold vp_in; decide) dX5_alu_241 (fun H locs hP hD hS => ?_)
                  have hF : rAlu f a p1 p2 = (rSigns (upd (upd f 14 (1 : Int32)) 16 (0 : Int32)) a (((((a 2) (7 : Int32).toNatClampNeg) - p2) - (f 16)) &&& (255 : Int32)), ua a 2 (upd (a 2) (7 : Int32).toNatClampNeg (((((a 2) (7 : Int32).toNatClampNeg) - p2) - (f 16)) &&& (255 : Int32)))) := by simp only [rAlu, if_neg c_1, if_pos c_45, if_pos c_89, if_neg c_90, if_pos c_98, if_neg c_99, if_pos c_103, if_neg c_104]
                  rw [hF]
                  exact KC.retv hx hb hr hlocks hK hP hD hS dX5_alu_242
              · refine lv_iconst (v := 1) hx hb dX5_alu_150 (by decide) ?_
                refine lv_goto (tgt := 155) hx hb dX5_alu_151 (by decide) ?_
                refine pu_R_f16 (v := (1 : Int32)) hx hb hts hi5 hown hK hP hD hS (hts (.fieldLink RX5 66 "InvaderBoardModel" "carry" "I") (by decide +kernel)) dX5_alu_155 (fun H locs hP hD hS => ?_)
                refine lv_goto (tgt := 213) hx hb dX5_alu_158 (by decide) ?_
                refine lv_aload_n hx hb dX5_alu_213 rfl (lv_at hl 3 rfl) ?_
                refine lv_iload hx hb dX5_alu_214 (lv_at hl 0 rfl) ?_
                refine lv_sipush (v := 255) hx hb dX5_alu_216 (by decide) ?_
                refine lv_iand hx hb dX5_alu_219 ?_
                refine KC.callv (ci := 5) (rest := []) (wt := wR cI o (rSigns (upd (upd f 14 (1 : Int32)) 16 (1 : Int32)) a (((((a 2) (7 : Int32).toNatClampNeg) - p2) - (f 16)) &&& (255 : Int32))) a) (kX5_signs l D cI o (upd (upd f 14 (1 : Int32)) 16 (1 : Int32)) a (((((a 2) (7 : Int32).toNatClampNeg) - p2) - (f 16)) &&& (255 : Int32))) (cwV 1 hts gX5_alu_X5_signs rfl rfl rfl (by decide +kernel) ⟨Nat.le_of_ble_eq_true rfl, Nat.le_of_ble_eq_true rfl⟩) ⟨hx, hb, hml, hown, hts⟩ hK hP hD hS hA rfl rfl rfl [0, 1, 2, 3, 4, 5, 6] [] [0, 1, 2, 3, 4, 5, 6] (by decide) rfl (wr := []) rfl (by decide) (by decide) (by decide) rfl rfl hl.1 rfl (Nat.le_of_ble_eq_true rfl) dX5_alu_220 ⟨Nat.zero_le _, Nat.zero_le _⟩ (fun H locs hP hD hS => ?_)
                refine lv_iload_n hx hb dX5_alu_223 rfl (lv_at hl 4 rfl) ?_
                refine lv_bipush (v := 7) hx hb dX5_alu_224 (by decide) ?_
                refine lv_icmp_ge (tgt := 242) hx hb dX5_alu_226 (by decide) (fun c_105 => ?_) (fun c_105 => ?_)
                · have hF : rAlu f a p1 p2 = (rSigns (upd (upd f 14 (1 : Int32)) 16 (1 : Int32)) a (((((a 2) (7 : Int32).toNatClampNeg) - p2) - (f 16)) &&& (255 : Int32)), a) := by simp only [rAlu, if_neg c_1, if_pos c_45, if_pos c_89, if_neg c_90, if_pos c_98, if_neg c_99, if_neg c_103, if_pos c_105]
                  rw [hF]
                  exact KC.retv hx hb hr hlocks hK hP hD hS dX5_alu_242
                · refine lv_aload_n hx hb dX5_alu_229 rfl (lv_at hl 3 rfl) ?_
                  refine va_get (ci := 5) (v := .ref (o 23)) (C := RX5) (T := TX5) (N := 24) hx hb hts hi5 hown hK hP 0 rfl rfl 3 (by decide) (hts (.fieldLink RX5 16 "InvaderBoardModel" "reg" "[I") (by decide +kernel)) (fun _ h9 => h9) rfl dX5_alu_230 ?_
                  refine lv_bipush (v := 7) hx hb dX5_alu_233 (by decide) ?_
                  refine lv_iload hx hb dX5_alu_235 (lv_at hl 0 rfl) ?_
                  refine lv_sipush (v := 255) hx hb dX5_alu_237 (by decide) ?_
                  refine lv_iand hx hb dX5_alu_240 ?_
                  refine pu_R_a2 hx hb hK hP hD hS (by unfold vp_in; decide) dX5_alu_241 (fun H locs hP hD hS => ?_)
                  have hF : rAlu f a p1 p2 = (rSigns (upd (upd f 14 (1 : Int32)) 16 (1 : Int32)) a (((((a 2) (7 : Int32).toNatClampNeg) - p2) - (f 16)) &&& (255 : Int32)), ua a 2 (upd (a 2) (7 : Int32).toNatClampNeg (((((a 2) (7 : Int32).toNatClampNeg) - p2) - (f 16)) &&& (255 : Int32)))) := by simp only [rAlu, if_neg c_1, if_pos c_45, if_pos c_89, if_neg c_90, if_pos c_98, if_neg c_99, if_neg c_103, if_neg c_105]
                  rw [hF]
                  exact KC.retv hx hb hr hlocks hK hP hD hS dX5_alu_242
          · refine lv_iload_n hx hb dX5_alu_100 rfl (lv_at hl 4 rfl) ?_
            refine lv_bipush (v := 7) hx hb dX5_alu_101 (by decide) ?_
            refine lv_icmp_ne (tgt := 161) hx hb dX5_alu_103 (by decide) (fun c_106 => ?_) (fun c_106 => ?_)
            · refine lv_iload_n hx hb dX5_alu_161 rfl (lv_at hl 4 rfl) ?_
              refine lv_iconst (v := 4) hx hb dX5_alu_162 (by decide) ?_
              refine lv_icmp_ne (tgt := 172) hx hb dX5_alu_163 (by decide) (fun c_107 => ?_) (fun c_107 => ?_)
              · refine lv_iload_n hx hb dX5_alu_172 rfl (lv_at hl 4 rfl) ?_
                refine lv_iconst (v := 5) hx hb dX5_alu_173 (by decide) ?_
                refine lv_icmp_ne (tgt := 183) hx hb dX5_alu_174 (by decide) (fun c_108 => ?_) (fun c_108 => ?_)
                · refine lv_iload_n hx hb dX5_alu_183 rfl (lv_at hl 2 rfl) ?_
                  refine lv_iload_n hx hb dX5_alu_184 rfl (lv_at hl 5 rfl) ?_
                  refine lv_ior hx hb dX5_alu_185 ?_
                  refine lv_istore (lv' := [(5, .int _), (4, .int _), (3, .int _), (0, .ref _), (1, .int _), (2, .int _)]) hx hb dX5_alu_186 hl (by decide) rfl (fun ls hl => ?_)
                  refine lv_aload_n hx hb dX5_alu_188 rfl (lv_at hl 3 rfl) ?_
                  refine lv_iload_n hx hb dX5_alu_189 rfl (lv_at hl 4 rfl) ?_
                  refine lv_iconst (v := 4) hx hb dX5_alu_190 (by decide) ?_
                  refine lv_icmp_ne (tgt := 204) hx hb dX5_alu_191 (by decide) (fun c_109 => ?_) (fun c_109 => ?_)
                  · refine lv_iconst (v := 0) hx hb dX5_alu_204 (by decide) ?_
                    refine pu_R_f14 (v := (0 : Int32)) hx hb hts hi5 hown hK hP hD hS (hts (.fieldLink RX5 63 "InvaderBoardModel" "half" "I") (by decide +kernel)) dX5_alu_205 (fun H locs hP hD hS => ?_)
                    refine lv_aload_n hx hb dX5_alu_208 rfl (lv_at hl 3 rfl) ?_
                    refine lv_iconst (v := 0) hx hb dX5_alu_209 (by decide) ?_
                    refine pu_R_f16 (v := (0 : Int32)) hx hb hts hi5 hown hK hP hD hS (hts (.fieldLink RX5 66 "InvaderBoardModel" "carry" "I") (by decide +kernel)) dX5_alu_210 (fun H locs hP hD hS => ?_)
                    refine lv_aload_n hx hb dX5_alu_213 rfl (lv_at hl 3 rfl) ?_
                    refine lv_iload hx hb dX5_alu_214 (lv_at hl 0 rfl) ?_
                    refine lv_sipush (v := 255) hx hb dX5_alu_216 (by decide) ?_
                    refine lv_iand hx hb dX5_alu_219 ?_
                    refine KC.callv (ci := 5) (rest := []) (wt := wR cI o (rSigns (upd (upd f 14 (0 : Int32)) 16 (0 : Int32)) a ((((a 2) (7 : Int32).toNatClampNeg) ||| p2) &&& (255 : Int32))) a) (kX5_signs l D cI o (upd (upd f 14 (0 : Int32)) 16 (0 : Int32)) a ((((a 2) (7 : Int32).toNatClampNeg) ||| p2) &&& (255 : Int32))) (cwV 1 hts gX5_alu_X5_signs rfl rfl rfl (by decide +kernel) ⟨Nat.le_of_ble_eq_true rfl, Nat.le_of_ble_eq_true rfl⟩) ⟨hx, hb, hml, hown, hts⟩ hK hP hD hS hA rfl rfl rfl [0, 1, 2, 3, 4, 5, 6] [] [0, 1, 2, 3, 4, 5, 6] (by decide) rfl (wr := []) rfl (by decide) (by decide) (by decide) rfl rfl hl.1 rfl (Nat.le_of_ble_eq_true rfl) dX5_alu_220 ⟨Nat.zero_le _, Nat.zero_le _⟩ (fun H locs hP hD hS => ?_)
                    refine lv_iload_n hx hb dX5_alu_223 rfl (lv_at hl 4 rfl) ?_
                    refine lv_bipush (v := 7) hx hb dX5_alu_224 (by decide) ?_
                    refine lv_icmp_ge (tgt := 242) hx hb dX5_alu_226 (by decide) (fun c_110 => ?_) (fun c_110 => ?_)
                    · have hF : rAlu f a p1 p2 = (rSigns (upd (upd f 14 (0 : Int32)) 16 (0 : Int32)) a ((((a 2) (7 : Int32).toNatClampNeg) ||| p2) &&& (255 : Int32)), a) := by simp only [rAlu, if_neg c_1, if_pos c_45, if_pos c_89, if_neg c_90, if_neg c_98, if_neg c_106, if_neg c_107, if_neg c_108, if_neg c_109, if_pos c_110]
                      rw [hF]
                      exact KC.retv hx hb hr hlocks hK hP hD hS dX5_alu_242
                    · refine lv_aload_n hx hb dX5_alu_229 rfl (lv_at hl 3 rfl) ?_
                      refine va_get (ci := 5) (v := .ref (o 23)) (C := RX5) (T := TX5) (N := 24) hx hb hts hi5 hown hK hP 0 rfl rfl 3 (by decide) (hts (.fieldLink RX5 16 "InvaderBoardModel" "reg" "[I") (by decide +kernel)) (fun _ h9 => h9) rfl dX5_alu_230 ?_
                      refine lv_bipush (v := 7) hx hb dX5_alu_233 (by decide) ?_
                      refine lv_iload hx hb dX5_alu_235 (lv_at hl 0 rfl) ?_
                      refine lv_sipush (v := 255) hx hb dX5_alu_237 (by decide) ?_
                      refine lv_iand hx hb dX5_alu_240 ?_
                      refine pu_R_a2 hx hb hK hP hD hS (by unfold vp_in; decide) dX5_alu_241 (fun H locs hP hD hS => ?_)
                      have hF : rAlu f a p1 p2 = (rSigns (upd (upd f 14 (0 : Int32)) 16 (0 : Int32)) a ((((a 2) (7 : Int32).toNatClampNeg) ||| p2) &&& (255 : Int32)), ua a 2 (upd (a 2) (7 : Int32).toNatClampNeg ((((a 2) (7 : Int32).toNatClampNeg) ||| p2) &&& (255 : Int32)))) := by simp only [rAlu, if_neg c_1, if_pos c_45, if_pos c_89, if_neg c_90, if_neg c_98, if_neg c_106, if_neg c_107, if_neg c_108, if_neg c_109, if_neg c_110]
                      rw [hF]
                      exact KC.retv hx hb hr hlocks hK hP hD hS dX5_alu_242
                  · refine lv_iload_n hx hb dX5_alu_194 rfl (lv_at hl 2 rfl) ?_
                    refine lv_iload_n hx hb dX5_alu_195 rfl (lv_at hl 5 rfl) ?_
                    refine lv_ior hx hb dX5_alu_196 ?_
                    refine lv_iconst (v := 3) hx hb dX5_alu_197 (by decide) ?_
                    refine lv_ishr hx hb dX5_alu_198 ?_
                    refine lv_iconst (v := 1) hx hb dX5_alu_199 (by decide) ?_
                    refine lv_iand hx hb dX5_alu_200 ?_
                    refine lv_goto (tgt := 205) hx hb dX5_alu_201 (by decide) ?_
                    refine pu_R_f14 (v := ((((a 2) (7 : Int32).toNatClampNeg) ||| p2) >>> ((3 : Int32) &&& 31)) &&& (1 : Int32)) hx hb hts hi5 hown hK hP hD hS (hts (.fieldLink RX5 63 "InvaderBoardModel" "half" "I") (by decide +kernel)) dX5_alu_205 (fun H locs hP hD hS => ?_)
                    refine lv_aload_n hx hb dX5_alu_208 rfl (lv_at hl 3 rfl) ?_
                    refine lv_iconst (v := 0) hx hb dX5_alu_209 (by decide) ?_
                    refine pu_R_f16 (v := (0 : Int32)) hx hb hts hi5 hown hK hP hD hS (hts (.fieldLink RX5 66 "InvaderBoardModel" "carry" "I") (by decide +kernel)) dX5_alu_210 (fun H locs hP hD hS => ?_)
                    refine lv_aload_n hx hb dX5_alu_213 rfl (lv_at hl 3 rfl) ?_
                    refine lv_iload hx hb dX5_alu_214 (lv_at hl 0 rfl) ?_
                    refine lv_sipush (v := 255) hx hb dX5_alu_216 (by decide) ?_
                    refine lv_iand hx hb dX5_alu_219 ?_
                    refine KC.callv (ci := 5) (rest := []) (wt := wR cI o (rSigns (upd (upd f 14 (((((a 2) (7 : Int32).toNatClampNeg) ||| p2) >>> ((3 : Int32) &&& 31)) &&& (1 : Int32))) 16 (0 : Int32)) a ((((a 2) (7 : Int32).toNatClampNeg) ||| p2) &&& (255 : Int32))) a) (kX5_signs l D cI o (upd (upd f 14 (((((a 2) (7 : Int32).toNatClampNeg) ||| p2) >>> ((3 : Int32) &&& 31)) &&& (1 : Int32))) 16 (0 : Int32)) a ((((a 2) (7 : Int32).toNatClampNeg) ||| p2) &&& (255 : Int32))) (cwV 1 hts gX5_alu_X5_signs rfl rfl rfl (by decide +kernel) ⟨Nat.le_of_ble_eq_true rfl, Nat.le_of_ble_eq_true rfl⟩) ⟨hx, hb, hml, hown, hts⟩ hK hP hD hS hA rfl rfl rfl [0, 1, 2, 3, 4, 5, 6] [] [0, 1, 2, 3, 4, 5, 6] (by decide) rfl (wr := []) rfl (by decide) (by decide) (by decide) rfl rfl hl.1 rfl (Nat.le_of_ble_eq_true rfl) dX5_alu_220 ⟨Nat.zero_le _, Nat.zero_le _⟩ (fun H locs hP hD hS => ?_)
                    refine lv_iload_n hx hb dX5_alu_223 rfl (lv_at hl 4 rfl) ?_
                    refine lv_bipush (v := 7) hx hb dX5_alu_224 (by decide) ?_
                    refine lv_icmp_ge (tgt := 242) hx hb dX5_alu_226 (by decide) (fun c_111 => ?_) (fun c_111 => ?_)
                    · have hF : rAlu f a p1 p2 = (rSigns (upd (upd f 14 (((((a 2) (7 : Int32).toNatClampNeg) ||| p2) >>> ((3 : Int32) &&& 31)) &&& (1 : Int32))) 16 (0 : Int32)) a ((((a 2) (7 : Int32).toNatClampNeg) ||| p2) &&& (255 : Int32)), a) := by simp only [rAlu, if_neg c_1, if_pos c_45, if_pos c_89, if_neg c_90, if_neg c_98, if_neg c_106, if_neg c_107, if_neg c_108, if_pos c_109, if_pos c_111]
                      rw [hF]
                      exact KC.retv hx hb hr hlocks hK hP hD hS dX5_alu_242
                    · refine lv_aload_n hx hb dX5_alu_229 rfl (lv_at hl 3 rfl) ?_
                      refine va_get (ci := 5) (v := .ref (o 23)) (C := RX5) (T := TX5) (N := 24) hx hb hts hi5 hown hK hP 0 rfl rfl 3 (by decide) (hts (.fieldLink RX5 16 "InvaderBoardModel" "reg" "[I") (by decide +kernel)) (fun _ h9 => h9) rfl dX5_alu_230 ?_
                      refine lv_bipush (v := 7) hx hb dX5_alu_233 (by decide) ?_
                      refine lv_iload hx hb dX5_alu_235 (lv_at hl 0 rfl) ?_
                      refine lv_sipush (v := 255) hx hb dX5_alu_237 (by decide) ?_
                      refine lv_iand hx hb dX5_alu_240 ?_
                      refine pu_R_a2 hx hb hK hP hD hS (by unfold vp_in; decide) dX5_alu_241 (fun H locs hP hD hS => ?_)
                      have hF : rAlu f a p1 p2 = (rSigns (upd (upd f 14 (((((a 2) (7 : Int32).toNatClampNeg) ||| p2) >>> ((3 : Int32) &&& 31)) &&& (1 : Int32))) 16 (0 : Int32)) a ((((a 2) (7 : Int32).toNatClampNeg) ||| p2) &&& (255 : Int32)), ua a 2 (upd (a 2) (7 : Int32).toNatClampNeg ((((a 2) (7 : Int32).toNatClampNeg) ||| p2) &&& (255 : Int32)))) := by simp only [rAlu, if_neg c_1, if_pos c_45, if_pos c_89, if_neg c_90, if_neg c_98, if_neg c_106, if_neg c_107, if_neg c_108, if_pos c_109, if_neg c_111]
                      rw [hF]
                      exact KC.retv hx hb hr hlocks hK hP hD hS dX5_alu_242
                · refine lv_iload_n hx hb dX5_alu_177 rfl (lv_at hl 2 rfl) ?_
                  refine lv_iload_n hx hb dX5_alu_178 rfl (lv_at hl 5 rfl) ?_
                  refine lv_ixor hx hb dX5_alu_179 ?_
                  refine lv_goto (tgt := 186) hx hb dX5_alu_180 (by decide) ?_
                  refine lv_istore (lv' := [(5, .int _), (4, .int _), (3, .int _), (0, .ref _), (1, .int _), (2, .int _)]) hx hb dX5_alu_186 hl (by decide) rfl (fun ls hl => ?_)
                  refine lv_aload_n hx hb dX5_alu_188 rfl (lv_at hl 3 rfl) ?_
                  refine lv_iload_n hx hb dX5_alu_189 rfl (lv_at hl 4 rfl) ?_
                  refine lv_iconst (v := 4) hx hb dX5_alu_190 (by decide) ?_
                  refine lv_icmp_ne (tgt := 204) hx hb dX5_alu_191 (by decide) (fun c_112 => ?_) (fun c_112 => ?_)
                  · refine lv_iconst (v := 0) hx hb dX5_alu_204 (by decide) ?_
                    refine pu_R_f14 (v := (0 : Int32)) hx hb hts hi5 hown hK hP hD hS (hts (.fieldLink RX5 63 "InvaderBoardModel" "half" "I") (by decide +kernel)) dX5_alu_205 (fun H locs hP hD hS => ?_)
                    refine lv_aload_n hx hb dX5_alu_208 rfl (lv_at hl 3 rfl) ?_
                    refine lv_iconst (v := 0) hx hb dX5_alu_209 (by decide) ?_
                    refine pu_R_f16 (v := (0 : Int32)) hx hb hts hi5 hown hK hP hD hS (hts (.fieldLink RX5 66 "InvaderBoardModel" "carry" "I") (by decide +kernel)) dX5_alu_210 (fun H locs hP hD hS => ?_)
                    refine lv_aload_n hx hb dX5_alu_213 rfl (lv_at hl 3 rfl) ?_
                    refine lv_iload hx hb dX5_alu_214 (lv_at hl 0 rfl) ?_
                    refine lv_sipush (v := 255) hx hb dX5_alu_216 (by decide) ?_
                    refine lv_iand hx hb dX5_alu_219 ?_
                    refine KC.callv (ci := 5) (rest := []) (wt := wR cI o (rSigns (upd (upd f 14 (0 : Int32)) 16 (0 : Int32)) a ((((a 2) (7 : Int32).toNatClampNeg) ^^^ p2) &&& (255 : Int32))) a) (kX5_signs l D cI o (upd (upd f 14 (0 : Int32)) 16 (0 : Int32)) a ((((a 2) (7 : Int32).toNatClampNeg) ^^^ p2) &&& (255 : Int32))) (cwV 1 hts gX5_alu_X5_signs rfl rfl rfl (by decide +kernel) ⟨Nat.le_of_ble_eq_true rfl, Nat.le_of_ble_eq_true rfl⟩) ⟨hx, hb, hml, hown, hts⟩ hK hP hD hS hA rfl rfl rfl [0, 1, 2, 3, 4, 5, 6] [] [0, 1, 2, 3, 4, 5, 6] (by decide) rfl (wr := []) rfl (by decide) (by decide) (by decide) rfl rfl hl.1 rfl (Nat.le_of_ble_eq_true rfl) dX5_alu_220 ⟨Nat.zero_le _, Nat.zero_le _⟩ (fun H locs hP hD hS => ?_)
                    refine lv_iload_n hx hb dX5_alu_223 rfl (lv_at hl 4 rfl) ?_
                    refine lv_bipush (v := 7) hx hb dX5_alu_224 (by decide) ?_
                    refine lv_icmp_ge (tgt := 242) hx hb dX5_alu_226 (by decide) (fun c_113 => ?_) (fun c_113 => ?_)
                    · have hF : rAlu f a p1 p2 = (rSigns (upd (upd f 14 (0 : Int32)) 16 (0 : Int32)) a ((((a 2) (7 : Int32).toNatClampNeg) ^^^ p2) &&& (255 : Int32)), a) := by simp only [rAlu, if_neg c_1, if_pos c_45, if_pos c_89, if_neg c_90, if_neg c_98, if_neg c_106, if_neg c_107, if_pos c_108, if_neg c_112, if_pos c_113]
                      rw [hF]
                      exact KC.retv hx hb hr hlocks hK hP hD hS dX5_alu_242
                    · refine lv_aload_n hx hb dX5_alu_229 rfl (lv_at hl 3 rfl) ?_
                      refine va_get (ci := 5) (v := .ref (o 23)) (C := RX5) (T := TX5) (N := 24) hx hb hts hi5 hown hK hP 0 rfl rfl 3 (by decide) (hts (.fieldLink RX5 16 "InvaderBoardModel" "reg" "[I") (by decide +kernel)) (fun _ h9 => h9) rfl dX5_alu_230 ?_
                      refine lv_bipush (v := 7) hx hb dX5_alu_233 (by decide) ?_
                      refine lv_iload hx hb dX5_alu_235 (lv_at hl 0 rfl) ?_
                      refine lv_sipush (v := 255) hx hb dX5_alu_237 (by decide) ?_
                      refine lv_iand hx hb dX5_alu_240 ?_
                      refine pu_R_a2 hx hb hK hP hD hS (by unfold vp_in; decide) dX5_alu_241 (fun H locs hP hD hS => ?_)
                      have hF : rAlu f a p1 p2 = (rSigns (upd (upd f 14 (0 : Int32)) 16 (0 : Int32)) a ((((a 2) (7 : Int32).toNatClampNeg) ^^^ p2) &&& (255 : Int32)), ua a 2 (upd (a 2) (7 : Int32).toNatClampNeg ((((a 2) (7 : Int32).toNatClampNeg) ^^^ p2) &&& (255 : Int32)))) := by simp only [rAlu, if_neg c_1, if_pos c_45, if_pos c_89, if_neg c_90, if_neg c_98, if_neg c_106, if_neg c_107, if_pos c_108, if_neg c_112, if_neg c_113]
                      rw [hF]
                      exact KC.retv hx hb hr hlocks hK hP hD hS dX5_alu_242
                  · refine lv_iload_n hx hb dX5_alu_194 rfl (lv_at hl 2 rfl) ?_
                    refine lv_iload_n hx hb dX5_alu_195 rfl (lv_at hl 5 rfl) ?_
                    refine lv_ior hx hb dX5_alu_196 ?_
                    refine lv_iconst (v := 3) hx hb dX5_alu_197 (by decide) ?_
                    refine lv_ishr hx hb dX5_alu_198 ?_
                    refine lv_iconst (v := 1) hx hb dX5_alu_199 (by decide) ?_
                    refine lv_iand hx hb dX5_alu_200 ?_
                    refine lv_goto (tgt := 205) hx hb dX5_alu_201 (by decide) ?_
                    refine pu_R_f14 (v := ((((a 2) (7 : Int32).toNatClampNeg) ||| p2) >>> ((3 : Int32) &&& 31)) &&& (1 : Int32)) hx hb hts hi5 hown hK hP hD hS (hts (.fieldLink RX5 63 "InvaderBoardModel" "half" "I") (by decide +kernel)) dX5_alu_205 (fun H locs hP hD hS => ?_)
                    refine lv_aload_n hx hb dX5_alu_208 rfl (lv_at hl 3 rfl) ?_
                    refine lv_iconst (v := 0) hx hb dX5_alu_209 (by decide) ?_
                    refine pu_R_f16 (v := (0 : Int32)) hx hb hts hi5 hown hK hP hD hS (hts (.fieldLink RX5 66 "InvaderBoardModel" "carry" "I") (by decide +kernel)) dX5_alu_210 (fun H locs hP hD hS => ?_)
                    refine lv_aload_n hx hb dX5_alu_213 rfl (lv_at hl 3 rfl) ?_
                    refine lv_iload hx hb dX5_alu_214 (lv_at hl 0 rfl) ?_
                    refine lv_sipush (v := 255) hx hb dX5_alu_216 (by decide) ?_
                    refine lv_iand hx hb dX5_alu_219 ?_
                    refine KC.callv (ci := 5) (rest := []) (wt := wR cI o (rSigns (upd (upd f 14 (((((a 2) (7 : Int32).toNatClampNeg) ||| p2) >>> ((3 : Int32) &&& 31)) &&& (1 : Int32))) 16 (0 : Int32)) a ((((a 2) (7 : Int32).toNatClampNeg) ^^^ p2) &&& (255 : Int32))) a) (kX5_signs l D cI o (upd (upd f 14 (((((a 2) (7 : Int32).toNatClampNeg) ||| p2) >>> ((3 : Int32) &&& 31)) &&& (1 : Int32))) 16 (0 : Int32)) a ((((a 2) (7 : Int32).toNatClampNeg) ^^^ p2) &&& (255 : Int32))) (cwV 1 hts gX5_alu_X5_signs rfl rfl rfl (by decide +kernel) ⟨Nat.le_of_ble_eq_true rfl, Nat.le_of_ble_eq_true rfl⟩) ⟨hx, hb, hml, hown, hts⟩ hK hP hD hS hA rfl rfl rfl [0, 1, 2, 3, 4, 5, 6] [] [0, 1, 2, 3, 4, 5, 6] (by decide) rfl (wr := []) rfl (by decide) (by decide) (by decide) rfl rfl hl.1 rfl (Nat.le_of_ble_eq_true rfl) dX5_alu_220 ⟨Nat.zero_le _, Nat.zero_le _⟩ (fun H locs hP hD hS => ?_)
                    refine lv_iload_n hx hb dX5_alu_223 rfl (lv_at hl 4 rfl) ?_
                    refine lv_bipush (v := 7) hx hb dX5_alu_224 (by decide) ?_
                    refine lv_icmp_ge (tgt := 242) hx hb dX5_alu_226 (by decide) (fun c_114 => ?_) (fun c_114 => ?_)
                    · have hF : rAlu f a p1 p2 = (rSigns (upd (upd f 14 (((((a 2) (7 : Int32).toNatClampNeg) ||| p2) >>> ((3 : Int32) &&& 31)) &&& (1 : Int32))) 16 (0 : Int32)) a ((((a 2) (7 : Int32).toNatClampNeg) ^^^ p2) &&& (255 : Int32)), a) := by simp only [rAlu, if_neg c_1, if_pos c_45, if_pos c_89, if_neg c_90, if_neg c_98, if_neg c_106, if_neg c_107, if_pos c_108, if_pos c_112, if_pos c_114]
                      rw [hF]
                      exact KC.retv hx hb hr hlocks hK hP hD hS dX5_alu_242
                    · refine lv_aload_n hx hb dX5_alu_229 rfl (lv_at hl 3 rfl) ?_
                      refine va_get (ci := 5) (v := .ref (o 23)) (C := RX5) (T := TX5) (N := 24) hx hb hts hi5 hown hK hP 0 rfl rfl 3 (by decide) (hts (.fieldLink RX5 16 "InvaderBoardModel" "reg" "[I") (by decide +kernel)) (fun _ h9 => h9) rfl dX5_alu_230 ?_
                      refine lv_bipush (v := 7) hx hb dX5_alu_233 (by decide) ?_
                      refine lv_iload hx hb dX5_alu_235 (lv_at hl 0 rfl) ?_
                      refine lv_sipush (v := 255) hx hb dX5_alu_237 (by decide) ?_
                      refine lv_iand hx hb dX5_alu_240 ?_
                      refine pu_R_a2 hx hb hK hP hD hS (by unfold vp_in; decide) dX5_alu_241 (fun H locs hP hD hS => ?_)
                      have hF : rAlu f a p1 p2 = (rSigns (upd (upd f 14 (((((a 2) (7 : Int32).toNatClampNeg) ||| p2) >>> ((3 : Int32) &&& 31)) &&& (1 : Int32))) 16 (0 : Int32)) a ((((a 2) (7 : Int32).toNatClampNeg) ^^^ p2) &&& (255 : Int32)), ua a 2 (upd (a 2) (7 : Int32).toNatClampNeg ((((a 2) (7 : Int32).toNatClampNeg) ^^^ p2) &&& (255 : Int32)))) := by simp only [rAlu, if_neg c_1, if_pos c_45, if_pos c_89, if_neg c_90, if_neg c_98, if_neg c_106, if_neg c_107, if_pos c_108, if_pos c_112, if_neg c_114]
                      rw [hF]
                      exact KC.retv hx hb hr hlocks hK hP hD hS dX5_alu_242
              · refine lv_iload_n hx hb dX5_alu_166 rfl (lv_at hl 2 rfl) ?_
                refine lv_iload_n hx hb dX5_alu_167 rfl (lv_at hl 5 rfl) ?_
                refine lv_iand hx hb dX5_alu_168 ?_
                refine lv_goto (tgt := 186) hx hb dX5_alu_169 (by decide) ?_
                refine lv_istore (lv' := [(5, .int _), (4, .int _), (3, .int _), (0, .ref _), (1, .int _), (2, .int _)]) hx hb dX5_alu_186 hl (by decide) rfl (fun ls hl => ?_)
                refine lv_aload_n hx hb dX5_alu_188 rfl (lv_at hl 3 rfl) ?_
                refine lv_iload_n hx hb dX5_alu_189 rfl (lv_at hl 4 rfl) ?_
                refine lv_iconst (v := 4) hx hb dX5_alu_190 (by decide) ?_
                refine lv_icmp_ne (tgt := 204) hx hb dX5_alu_191 (by decide) (fun c_115 => ?_) (fun c_115 => ?_)
                · refine lv_iconst (v := 0) hx hb dX5_alu_204 (by decide) ?_
                  refine pu_R_f14 (v := (0 : Int32)) hx hb hts hi5 hown hK hP hD hS (hts (.fieldLink RX5 63 "InvaderBoardModel" "half" "I") (by decide +kernel)) dX5_alu_205 (fun H locs hP hD hS => ?_)
                  refine lv_aload_n hx hb dX5_alu_208 rfl (lv_at hl 3 rfl) ?_
                  refine lv_iconst (v := 0) hx hb dX5_alu_209 (by decide) ?_
                  refine pu_R_f16 (v := (0 : Int32)) hx hb hts hi5 hown hK hP hD hS (hts (.fieldLink RX5 66 "InvaderBoardModel" "carry" "I") (by decide +kernel)) dX5_alu_210 (fun H locs hP hD hS => ?_)
                  refine lv_aload_n hx hb dX5_alu_213 rfl (lv_at hl 3 rfl) ?_
                  refine lv_iload hx hb dX5_alu_214 (lv_at hl 0 rfl) ?_
                  refine lv_sipush (v := 255) hx hb dX5_alu_216 (by decide) ?_
                  refine lv_iand hx hb dX5_alu_219 ?_
                  refine KC.callv (ci := 5) (rest := []) (wt := wR cI o (rSigns (upd (upd f 14 (0 : Int32)) 16 (0 : Int32)) a ((((a 2) (7 : Int32).toNatClampNeg) &&& p2) &&& (255 : Int32))) a) (kX5_signs l D cI o (upd (upd f 14 (0 : Int32)) 16 (0 : Int32)) a ((((a 2) (7 : Int32).toNatClampNeg) &&& p2) &&& (255 : Int32))) (cwV 1 hts gX5_alu_X5_signs rfl rfl rfl (by decide +kernel) ⟨Nat.le_of_ble_eq_true rfl, Nat.le_of_ble_eq_true rfl⟩) ⟨hx, hb, hml, hown, hts⟩ hK hP hD hS hA rfl rfl rfl [0, 1, 2, 3, 4, 5, 6] [] [0, 1, 2, 3, 4, 5, 6] (by decide) rfl (wr := []) rfl (by decide) (by decide) (by decide) rfl rfl hl.1 rfl (Nat.le_of_ble_eq_true rfl) dX5_alu_220 ⟨Nat.zero_le _, Nat.zero_le _⟩ (fun H locs hP hD hS => ?_)
                  refine lv_iload_n hx hb dX5_alu_223 rfl (lv_at hl 4 rfl) ?_
                  refine lv_bipush (v := 7) hx hb dX5_alu_224 (by decide) ?_
                  refine lv_icmp_ge (tgt := 242) hx hb dX5_alu_226 (by decide) (fun c_116 => ?_) (fun c_116 => ?_)
                  · have hF : rAlu f a p1 p2 = (rSigns (upd (upd f 14 (0 : Int32)) 16 (0 : Int32)) a ((((a 2) (7 : Int32).toNatClampNeg) &&& p2) &&& (255 : Int32)), a) := by simp only [rAlu, if_neg c_1, if_pos c_45, if_pos c_89, if_neg c_90, if_neg c_98, if_neg c_106, if_pos c_107, if_neg c_115, if_pos c_116]
                    rw [hF]
                    exact KC.retv hx hb hr hlocks hK hP hD hS dX5_alu_242
                  · refine lv_aload_n hx hb dX5_alu_229 rfl (lv_at hl 3 rfl) ?_
                    refine va_get (ci := 5) (v := .ref (o 23)) (C := RX5) (T := TX5) (N := 24) hx hb hts hi5 hown hK hP 0 rfl rfl 3 (by decide) (hts (.fieldLink RX5 16 "InvaderBoardModel" "reg" "[I") (by decide +kernel)) (fun _ h9 => h9) rfl dX5_alu_230 ?_
                    refine lv_bipush (v := 7) hx hb dX5_alu_233 (by decide) ?_
                    refine lv_iload hx hb dX5_alu_235 (lv_at hl 0 rfl) ?_
                    refine lv_sipush (v := 255) hx hb dX5_alu_237 (by decide) ?_
                    refine lv_iand hx hb dX5_alu_240 ?_
                    refine pu_R_a2 hx hb hK hP hD hS (by unfold vp_in; decide) dX5_alu_241 (fun H locs hP hD hS => ?_)
                    have hF : rAlu f a p1 p2 = (rSigns (upd (upd f 14 (0 : Int32)) 16 (0 : Int32)) a ((((a 2) (7 : Int32).toNatClampNeg) &&& p2) &&& (255 : Int32)), ua a 2 (upd (a 2) (7 : Int32).toNatClampNeg ((((a 2) (7 : Int32).toNatClampNeg) &&& p2) &&& (255 : Int32)))) := by simp only [rAlu, if_neg c_1, if_pos c_45, if_pos c_89, if_neg c_90, if_neg c_98, if_neg c_106, if_pos c_107, if_neg c_115, if_neg c_116]
                    rw [hF]
                    exact KC.retv hx hb hr hlocks hK hP hD hS dX5_alu_242
                · refine lv_iload_n hx hb dX5_alu_194 rfl (lv_at hl 2 rfl) ?_
                  refine lv_iload_n hx hb dX5_alu_195 rfl (lv_at hl 5 rfl) ?_
                  refine lv_ior hx hb dX5_alu_196 ?_
                  refine lv_iconst (v := 3) hx hb dX5_alu_197 (by decide) ?_
                  refine lv_ishr hx hb dX5_alu_198 ?_
                  refine lv_iconst (v := 1) hx hb dX5_alu_199 (by decide) ?_
                  refine lv_iand hx hb dX5_alu_200 ?_
                  refine lv_goto (tgt := 205) hx hb dX5_alu_201 (by decide) ?_
                  refine pu_R_f14 (v := ((((a 2) (7 : Int32).toNatClampNeg) ||| p2) >>> ((3 : Int32) &&& 31)) &&& (1 : Int32)) hx hb hts hi5 hown hK hP hD hS (hts (.fieldLink RX5 63 "InvaderBoardModel" "half" "I") (by decide +kernel)) dX5_alu_205 (fun H locs hP hD hS => ?_)
                  refine lv_aload_n hx hb dX5_alu_208 rfl (lv_at hl 3 rfl) ?_
                  refine lv_iconst (v := 0) hx hb dX5_alu_209 (by decide) ?_
                  refine pu_R_f16 (v := (0 : Int32)) hx hb hts hi5 hown hK hP hD hS (hts (.fieldLink RX5 66 "InvaderBoardModel" "carry" "I") (by decide +kernel)) dX5_alu_210 (fun H locs hP hD hS => ?_)
                  refine lv_aload_n hx hb dX5_alu_213 rfl (lv_at hl 3 rfl) ?_
                  refine lv_iload hx hb dX5_alu_214 (lv_at hl 0 rfl) ?_
                  refine lv_sipush (v := 255) hx hb dX5_alu_216 (by decide) ?_
                  refine lv_iand hx hb dX5_alu_219 ?_
                  refine KC.callv (ci := 5) (rest := []) (wt := wR cI o (rSigns (upd (upd f 14 (((((a 2) (7 : Int32).toNatClampNeg) ||| p2) >>> ((3 : Int32) &&& 31)) &&& (1 : Int32))) 16 (0 : Int32)) a ((((a 2) (7 : Int32).toNatClampNeg) &&& p2) &&& (255 : Int32))) a) (kX5_signs l D cI o (upd (upd f 14 (((((a 2) (7 : Int32).toNatClampNeg) ||| p2) >>> ((3 : Int32) &&& 31)) &&& (1 : Int32))) 16 (0 : Int32)) a ((((a 2) (7 : Int32).toNatClampNeg) &&& p2) &&& (255 : Int32))) (cwV 1 hts gX5_alu_X5_signs rfl rfl rfl (by decide +kernel) ⟨Nat.le_of_ble_eq_true rfl, Nat.le_of_ble_eq_true rfl⟩) ⟨hx, hb, hml, hown, hts⟩ hK hP hD hS hA rfl rfl rfl [0, 1, 2, 3, 4, 5, 6] [] [0, 1, 2, 3, 4, 5, 6] (by decide) rfl (wr := []) rfl (by decide) (by decide) (by decide) rfl rfl hl.1 rfl (Nat.le_of_ble_eq_true rfl) dX5_alu_220 ⟨Nat.zero_le _, Nat.zero_le _⟩ (fun H locs hP hD hS => ?_)
                  refine lv_iload_n hx hb dX5_alu_223 rfl (lv_at hl 4 rfl) ?_
                  refine lv_bipush (v := 7) hx hb dX5_alu_224 (by decide) ?_
                  refine lv_icmp_ge (tgt := 242) hx hb dX5_alu_226 (by decide) (fun c_117 => ?_) (fun c_117 => ?_)
                  · have hF : rAlu f a p1 p2 = (rSigns (upd (upd f 14 (((((a 2) (7 : Int32).toNatClampNeg) ||| p2) >>> ((3 : Int32) &&& 31)) &&& (1 : Int32))) 16 (0 : Int32)) a ((((a 2) (7 : Int32).toNatClampNeg) &&& p2) &&& (255 : Int32)), a) := by simp only [rAlu, if_neg c_1, if_pos c_45, if_pos c_89, if_neg c_90, if_neg c_98, if_neg c_106, if_pos c_107, if_pos c_115, if_pos c_117]
                    rw [hF]
                    exact KC.retv hx hb hr hlocks hK hP hD hS dX5_alu_242
                  · refine lv_aload_n hx hb dX5_alu_229 rfl (lv_at hl 3 rfl) ?_
                    refine va_get (ci := 5) (v := .ref (o 23)) (C := RX5) (T := TX5) (N := 24) hx hb hts hi5 hown hK hP 0 rfl rfl 3 (by decide) (hts (.fieldLink RX5 16 "InvaderBoardModel" "reg" "[I") (by decide +kernel)) (fun _ h9 => h9) rfl dX5_alu_230 ?_
                    refine lv_bipush (v := 7) hx hb dX5_alu_233 (by decide) ?_
                    refine lv_iload hx hb dX5_alu_235 (lv_at hl 0 rfl) ?_
                    refine lv_sipush (v := 255) hx hb dX5_alu_237 (by decide) ?_
                    refine lv_iand hx hb dX5_alu_240 ?_
                    refine pu_R_a2 hx hb hK hP hD hS (by unfold vp_in; decide) dX5_alu_241 (fun H locs hP hD hS => ?_)
                    have hF : rAlu f a p1 p2 = (rSigns (upd (upd f 14 (((((a 2) (7 : Int32).toNatClampNeg) ||| p2) >>> ((3 : Int32) &&& 31)) &&& (1 : Int32))) 16 (0 : Int32)) a ((((a 2) (7 : Int32).toNatClampNeg) &&& p2) &&& (255 : Int32)), ua a 2 (upd (a 2) (7 : Int32).toNatClampNeg ((((a 2) (7 : Int32).toNatClampNeg) &&& p2) &&& (255 : Int32)))) := by simp only [rAlu, if_neg c_1, if_pos c_45, if_pos c_89, if_neg c_90, if_neg c_98, if_neg c_106, if_pos c_107, if_pos c_115, if_neg c_117]
                    rw [hF]
                    exact KC.retv hx hb hr hlocks hK hP hD hS dX5_alu_242
            · refine lv_iload_n hx hb dX5_alu_106 rfl (lv_at hl 2 rfl) ?_
              refine lv_iload_n hx hb dX5_alu_107 rfl (lv_at hl 5 rfl) ?_
              refine lv_isub hx hb dX5_alu_108 ?_
              refine lv_iload hx hb dX5_alu_109 (lv_at hl 1 rfl) ?_
              refine lv_isub hx hb dX5_alu_111 ?_
              refine lv_istore (lv' := [(5, .int _), (4, .int _), (3, .int _), (0, .ref _), (1, .int _), (2, .int _)]) hx hb dX5_alu_112 hl (by decide) rfl (fun ls hl => ?_)
              refine lv_aload_n hx hb dX5_alu_114 rfl (lv_at hl 3 rfl) ?_
              refine lv_iload_n hx hb dX5_alu_115 rfl (lv_at hl 2 rfl) ?_
              refine lv_bipush (v := 15) hx hb dX5_alu_116 (by decide) ?_
              refine lv_iand hx hb dX5_alu_118 ?_
              refine lv_iload_n hx hb dX5_alu_119 rfl (lv_at hl 5 rfl) ?_
              refine lv_iconst (v := -1) hx hb dX5_alu_120 (by decide) ?_
              refine lv_ixor hx hb dX5_alu_121 ?_
              refine lv_bipush (v := 15) hx hb dX5_alu_122 (by decide) ?_
              refine lv_iand hx hb dX5_alu_124 ?_
              refine lv_iadd hx hb dX5_alu_125 ?_
              refine lv_iconst (v := 1) hx hb dX5_alu_126 (by decide) ?_
              refine lv_iadd hx hb dX5_alu_127 ?_
              refine lv_iload hx hb dX5_alu_128 (lv_at hl 1 rfl) ?_
              refine lv_isub hx hb dX5_alu_130 ?_
              refine lv_bipush (v := 15) hx hb dX5_alu_131 (by decide) ?_
              refine lv_icmp_le (tgt := 140) hx hb dX5_alu_133 (by decide) (fun c_118 => ?_) (fun c_118 => ?_)
              · refine lv_iconst (v := 0) hx hb dX5_alu_140 (by decide) ?_
                refine pu_R_f14 (v := (0 : Int32)) hx hb hts hi5 hown hK hP hD hS (hts (.fieldLink RX5 63 "InvaderBoardModel" "half" "I") (by decide +kernel)) dX5_alu_141 (fun H locs hP hD hS => ?_)
                refine lv_aload_n hx hb dX5_alu_144 rfl (lv_at hl 3 rfl) ?_
                refine lv_iload hx hb dX5_alu_145 (lv_at hl 0 rfl) ?_
                refine lv_if_ge (tgt := 154) hx hb dX5_alu_147 (by decide) (fun c_119 => ?_) (fun c_119 => ?_)
                · refine lv_iconst (v := 0) hx hb dX5_alu_154 (by decide) ?_
                  refine pu_R_f16 (v := (0 : Int32)) hx hb hts hi5 hown hK hP hD hS (hts (.fieldLink RX5 66 "InvaderBoardModel" "carry" "I") (by decide +kernel)) dX5_alu_155 (fun H locs hP hD hS => ?_)
                  refine lv_goto (tgt := 213) hx hb dX5_alu_158 (by decide) ?_
                  refine lv_aload_n hx hb dX5_alu_213 rfl (lv_at hl 3 rfl) ?_
                  refine lv_iload hx hb dX5_alu_214 (lv_at hl 0 rfl) ?_
                  refine lv_sipush (v := 255) hx hb dX5_alu_216 (by decide) ?_
                  refine lv_iand hx hb dX5_alu_219 ?_
                  refine KC.callv (ci := 5) (rest := []) (wt := wR cI o (rSigns (upd (upd f 14 (0 : Int32)) 16 (0 : Int32)) a (((((a 2) (7 : Int32).toNatClampNeg) - p2) - (f 16)) &&& (255 : Int32))) a) (kX5_signs l D cI o (upd (upd f 14 (0 : Int32)) 16 (0 : Int32)) a (((((a 2) (7 : Int32).toNatClampNeg) - p2) - (f 16)) &&& (255 : Int32))) (cwV 1 hts gX5_alu_X5_signs rfl rfl rfl (by decide +kernel) ⟨Nat.le_of_ble_eq_true rfl, Nat.le_of_ble_eq_true rfl⟩) ⟨hx, hb, hml, hown, hts⟩ hK hP hD hS hA rfl rfl rfl [0, 1, 2, 3, 4, 5, 6] [] [0, 1, 2, 3, 4, 5, 6] (by decide) rfl (wr := []) rfl (by decide) (by decide) (by decide) rfl rfl hl.1 rfl (Nat.le_of_ble_eq_true rfl) dX5_alu_220 ⟨Nat.zero_le _, Nat.zero_le _⟩ (fun H locs hP hD hS => ?_)
                  refine lv_iload_n hx hb dX5_alu_223 rfl (lv_at hl 4 rfl) ?_
                  refine lv_bipush (v := 7) hx hb dX5_alu_224 (by decide) ?_
                  refine lv_icmp_ge (tgt := 242) hx hb dX5_alu_226 (by decide) (fun c_120 => ?_) (fun c_120 => ?_)
                  · have hF : rAlu f a p1 p2 = (rSigns (upd (upd f 14 (0 : Int32)) 16 (0 : Int32)) a (((((a 2) (7 : Int32).toNatClampNeg) - p2) - (f 16)) &&& (255 : Int32)), a) := by simp only [rAlu, if_neg c_1, if_pos c_45, if_pos c_89, if_neg c_90, if_neg c_98, if_pos c_106, if_pos c_118, if_pos c_119, if_pos c_120]
                    rw [hF]
                    exact KC.retv hx hb hr hlocks hK hP hD hS dX5_alu_242
                  · refine lv_aload_n hx hb dX5_alu_229 rfl (lv_at hl 3 rfl) ?_
                    refine va_get (ci := 5) (v := .ref (o 23)) (C := RX5) (T := TX5) (N := 24) hx hb hts hi5 hown hK hP 0 rfl rfl 3 (by decide) (hts (.fieldLink RX5 16 "InvaderBoardModel" "reg" "[I") (by decide +kernel)) (fun _ h9 => h9) rfl dX5_alu_230 ?_
                    refine lv_bipush (v := 7) hx hb dX5_alu_233 (by decide) ?_
                    refine lv_iload hx hb dX5_alu_235 (lv_at hl 0 rfl) ?_
                    refine lv_sipush (v := 255) hx hb dX5_alu_237 (by decide) ?_
                    refine lv_iand hx hb dX5_alu_240 ?_
                    refine pu_R_a2 hx hb hK hP hD hS (by unfold vp_in; decide) dX5_alu_241 (fun H locs hP hD hS => ?_)
                    have hF : rAlu f a p1 p2 = (rSigns (upd (upd f 14 (0 : Int32)) 16 (0 : Int32)) a (((((a 2) (7 : Int32).toNatClampNeg) - p2) - (f 16)) &&& (255 : Int32)), ua a 2 (upd (a 2) (7 : Int32).toNatClampNeg (((((a 2) (7 : Int32).toNatClampNeg) - p2) - (f 16)) &&& (255 : Int32)))) := by simp only [rAlu, if_neg c_1, if_pos c_45, if_pos c_89, if_neg c_90, if_neg c_98, if_pos c_106, if_pos c_118, if_pos c_119, if_neg c_120]
                    rw [hF]
                    exact KC.retv hx hb hr hlocks hK hP hD hS dX5_alu_242
                · refine lv_iconst (v := 1) hx hb dX5_alu_150 (by decide) ?_
                  refine lv_goto (tgt := 155) hx hb dX5_alu_151 (by decide) ?_
                  refine pu_R_f16 (v := (1 : Int32)) hx hb hts hi5 hown hK hP hD hS (hts (.fieldLink RX5 66 "InvaderBoardModel" "carry" "I") (by decide +kernel)) dX5_alu_155 (fun H locs hP hD hS => ?_)
                  refine lv_goto (tgt := 213) hx hb dX5_alu_158 (by decide) ?_
                  refine lv_aload_n hx hb dX5_alu_213 rfl (lv_at hl 3 rfl) ?_
                  refine lv_iload hx hb dX5_alu_214 (lv_at hl 0 rfl) ?_
                  refine lv_sipush (v := 255) hx hb dX5_alu_216 (by decide) ?_
                  refine lv_iand hx hb dX5_alu_219 ?_
                  refine KC.callv (ci := 5) (rest := []) (wt := wR cI o (rSigns (upd (upd f 14 (0 : Int32)) 16 (1 : Int32)) a (((((a 2) (7 : Int32).toNatClampNeg) - p2) - (f 16)) &&& (255 : Int32))) a) (kX5_signs l D cI o (upd (upd f 14 (0 : Int32)) 16 (1 : Int32)) a (((((a 2) (7 : Int32).toNatClampNeg) - p2) - (f 16)) &&& (255 : Int32))) (cwV 1 hts gX5_alu_X5_signs rfl rfl rfl (by decide +kernel) ⟨Nat.le_of_ble_eq_true rfl, Nat.le_of_ble_eq_true rfl⟩) ⟨hx, hb, hml, hown, hts⟩ hK hP hD hS hA rfl rfl rfl [0, 1, 2, 3, 4, 5, 6] [] [0, 1, 2, 3, 4, 5, 6] (by decide) rfl (wr := []) rfl (by decide) (by decide) (by decide) rfl rfl hl.1 rfl (Nat.le_of_ble_eq_true rfl) dX5_alu_220 ⟨Nat.zero_le _, Nat.zero_le _⟩ (fun H locs hP hD hS => ?_)
                  refine lv_iload_n hx hb dX5_alu_223 rfl (lv_at hl 4 rfl) ?_
                  refine lv_bipush (v := 7) hx hb dX5_alu_224 (by decide) ?_
                  refine lv_icmp_ge (tgt := 242) hx hb dX5_alu_226 (by decide) (fun c_121 => ?_) (fun c_121 => ?_)
                  · have hF : rAlu f a p1 p2 = (rSigns (upd (upd f 14 (0 : Int32)) 16 (1 : Int32)) a (((((a 2) (7 : Int32).toNatClampNeg) - p2) - (f 16)) &&& (255 : Int32)), a) := by simp only [rAlu, if_neg c_1, if_pos c_45, if_pos c_89, if_neg c_90, if_neg c_98, if_pos c_106, if_pos c_118, if_neg c_119, if_pos c_121]
                    rw [hF]
                    exact KC.retv hx hb hr hlocks hK hP hD hS dX5_alu_242
                  · refine lv_aload_n hx hb dX5_alu_229 rfl (lv_at hl 3 rfl) ?_
                    refine va_get (ci := 5) (v := .ref (o 23)) (C := RX5) (T := TX5) (N := 24) hx hb hts hi5 hown hK hP 0 rfl rfl 3 (by decide) (hts (.fieldLink RX5 16 "InvaderBoardModel" "reg" "[I") (by decide +kernel)) (fun _ h9 => h9) rfl dX5_alu_230 ?_
                    refine lv_bipush (v := 7) hx hb dX5_alu_233 (by decide) ?_
                    refine lv_iload hx hb dX5_alu_235 (lv_at hl 0 rfl) ?_
                    refine lv_sipush (v := 255) hx hb dX5_alu_237 (by decide) ?_
                    refine lv_iand hx hb dX5_alu_240 ?_
                    refine pu_R_a2 hx hb hK hP hD hS (by unfold vp_in; decide) dX5_alu_241 (fun H locs hP hD hS => ?_)
                    have hF : rAlu f a p1 p2 = (rSigns (upd (upd f 14 (0 : Int32)) 16 (1 : Int32)) a (((((a 2) (7 : Int32).toNatClampNeg) - p2) - (f 16)) &&& (255 : Int32)), ua a 2 (upd (a 2) (7 : Int32).toNatClampNeg (((((a 2) (7 : Int32).toNatClampNeg) - p2) - (f 16)) &&& (255 : Int32)))) := by simp only [rAlu, if_neg c_1, if_pos c_45, if_pos c_89, if_neg c_90, if_neg c_98, if_pos c_106, if_pos c_118, if_neg c_119, if_neg c_121]
                    rw [hF]
                    exact KC.retv hx hb hr hlocks hK hP hD hS dX5_alu_242
              · refine lv_iconst (v := 1) hx hb dX5_alu_136 (by decide) ?_
                refine lv_goto (tgt := 141) hx hb dX5_alu_137 (by decide) ?_
                refine pu_R_f14 (v := (1 : Int32)) hx hb hts hi5 hown hK hP hD hS (hts (.fieldLink RX5 63 "InvaderBoardModel" "half" "I") (by decide +kernel)) dX5_alu_141 (fun H locs hP hD hS => ?_)
                refine lv_aload_n hx hb dX5_alu_144 rfl (lv_at hl 3 rfl) ?_
                refine lv_iload hx hb dX5_alu_145 (lv_at hl 0 rfl) ?_
                refine lv_if_ge (tgt := 154) hx hb dX5_alu_147 (by decide) (fun c_122 => ?_) (fun c_122 => ?_)
                · refine lv_iconst (v := 0) hx hb dX5_alu_154 (by decide) ?_
                  refine pu_R_f16 (v := (0 : Int32)) hx hb hts hi5 hown hK hP hD hS (hts (.fieldLink RX5 66 "InvaderBoardModel" "carry" "I") (by decide +kernel)) dX5_alu_155 (fun H locs hP hD hS => ?_)
                  refine lv_goto (tgt := 213) hx hb dX5_alu_158 (by decide) ?_
                  refine lv_aload_n hx hb dX5_alu_213 rfl (lv_at hl 3 rfl) ?_
                  refine lv_iload hx hb dX5_alu_214 (lv_at hl 0 rfl) ?_
                  refine lv_sipush (v := 255) hx hb dX5_alu_216 (by decide) ?_
                  refine lv_iand hx hb dX5_alu_219 ?_
                  refine KC.callv (ci := 5) (rest := []) (wt := wR cI o (rSigns (upd (upd f 14 (1 : Int32)) 16 (0 : Int32)) a (((((a 2) (7 : Int32).toNatClampNeg) - p2) - (f 16)) &&& (255 : Int32))) a) (kX5_signs l D cI o (upd (upd f 14 (1 : Int32)) 16 (0 : Int32)) a (((((a 2) (7 : Int32).toNatClampNeg) - p2) - (f 16)) &&& (255 : Int32))) (cwV 1 hts gX5_alu_X5_signs rfl rfl rfl (by decide +kernel) ⟨Nat.le_of_ble_eq_true rfl, Nat.le_of_ble_eq_true rfl⟩) ⟨hx, hb, hml, hown, hts⟩ hK hP hD hS hA rfl rfl rfl [0, 1, 2, 3, 4, 5, 6] [] [0, 1, 2, 3, 4, 5, 6] (by decide) rfl (wr := []) rfl (by decide) (by decide) (by decide) rfl rfl hl.1 rfl (Nat.le_of_ble_eq_true rfl) dX5_alu_220 ⟨Nat.zero_le _, Nat.zero_le _⟩ (fun H locs hP hD hS => ?_)
                  refine lv_iload_n hx hb dX5_alu_223 rfl (lv_at hl 4 rfl) ?_
                  refine lv_bipush (v := 7) hx hb dX5_alu_224 (by decide) ?_
                  refine lv_icmp_ge (tgt := 242) hx hb dX5_alu_226 (by decide) (fun c_123 => ?_) (fun c_123 => ?_)
                  · have hF : rAlu f a p1 p2 = (rSigns (upd (upd f 14 (1 : Int32)) 16 (0 : Int32)) a (((((a 2) (7 : Int32).toNatClampNeg) - p2) - (f 16)) &&& (255 : Int32)), a) := by simp only [rAlu, if_neg c_1, if_pos c_45, if_pos c_89, if_neg c_90, if_neg c_98, if_pos c_106, if_neg c_118, if_pos c_122, if_pos c_123]
                    rw [hF]
                    exact KC.retv hx hb hr hlocks hK hP hD hS dX5_alu_242
                  · refine lv_aload_n hx hb dX5_alu_229 rfl (lv_at hl 3 rfl) ?_
                    refine va_get (ci := 5) (v := .ref (o 23)) (C := RX5) (T := TX5) (N := 24) hx hb hts hi5 hown hK hP 0 rfl rfl 3 (by decide) (hts (.fieldLink RX5 16 "InvaderBoardModel" "reg" "[I") (by decide +kernel)) (fun _ h9 => h9) rfl dX5_alu_230 ?_
                    refine lv_bipush (v := 7) hx hb dX5_alu_233 (by decide) ?_
                    refine lv_iload hx hb dX5_alu_235 (lv_at hl 0 rfl) ?_
                    refine lv_sipush (v := 255) hx hb dX5_alu_237 (by decide) ?_
                    refine lv_iand hx hb dX5_alu_240 ?_
                    refine pu_R_a2 hx hb hK hP hD hS (by unfold vp_in; decide) dX5_alu_241 (fun H locs hP hD hS => ?_)
                    have hF : rAlu f a p1 p2 = (rSigns (upd (upd f 14 (1 : Int32)) 16 (0 : Int32)) a (((((a 2) (7 : Int32).toNatClampNeg) - p2) - (f 16)) &&& (255 : Int32)), ua a 2 (upd (a 2) (7 : Int32).toNatClampNeg (((((a 2) (7 : Int32).toNatClampNeg) - p2) - (f 16)) &&& (255 : Int32)))) := by simp only [rAlu, if_neg c_1, if_pos c_45, if_pos c_89, if_neg c_90, if_neg c_98, if_pos c_106, if_neg c_118, if_pos c_122, if_neg c_123]
                    rw [hF]
                    exact KC.retv hx hb hr hlocks hK hP hD hS dX5_alu_242
                · refine lv_iconst (v := 1) hx hb dX5_alu_150 (by decide) ?_
                  refine lv_goto (tgt := 155) hx hb dX5_alu_151 (by decide) ?_
                  refine pu_R_f16 (v := (1 : Int32)) hx hb hts hi5 hown hK hP hD hS (hts (.fieldLink RX5 66 "InvaderBoardModel" "carry" "I") (by decide +kernel)) dX5_alu_155 (fun H locs hP hD hS => ?_)
                  refine lv_goto (tgt := 213) hx hb dX5_alu_158 (by decide) ?_
                  refine lv_aload_n hx hb dX5_alu_213 rfl (lv_at hl 3 rfl) ?_
                  refine lv_iload hx hb dX5_alu_214 (lv_at hl 0 rfl) ?_
                  refine lv_sipush (v := 255) hx hb dX5_alu_216 (by decide) ?_
                  refine lv_iand hx hb dX5_alu_219 ?_
                  refine KC.callv (ci := 5) (rest := []) (wt := wR cI o (rSigns (upd (upd f 14 (1 : Int32)) 16 (1 : Int32)) a (((((a 2) (7 : Int32).toNatClampNeg) - p2) - (f 16)) &&& (255 : Int32))) a) (kX5_signs l D cI o (upd (upd f 14 (1 : Int32)) 16 (1 : Int32)) a (((((a 2) (7 : Int32).toNatClampNeg) - p2) - (f 16)) &&& (255 : Int32))) (cwV 1 hts gX5_alu_X5_signs rfl rfl rfl (by decide +kernel) ⟨Nat.le_of_ble_eq_true rfl, Nat.le_of_ble_eq_true rfl⟩) ⟨hx, hb, hml, hown, hts⟩ hK hP hD hS hA rfl rfl rfl [0, 1, 2, 3, 4, 5, 6] [] [0, 1, 2, 3, 4, 5, 6] (by decide) rfl (wr := []) rfl (by decide) (by decide) (by decide) rfl rfl hl.1 rfl (Nat.le_of_ble_eq_true rfl) dX5_alu_220 ⟨Nat.zero_le _, Nat.zero_le _⟩ (fun H locs hP hD hS => ?_)
                  refine lv_iload_n hx hb dX5_alu_223 rfl (lv_at hl 4 rfl) ?_
                  refine lv_bipush (v := 7) hx hb dX5_alu_224 (by decide) ?_
                  refine lv_icmp_ge (tgt := 242) hx hb dX5_alu_226 (by decide) (fun c_124 => ?_) (fun c_124 => ?_)
                  · have hF : rAlu f a p1 p2 = (rSigns (upd (upd f 14 (1 : Int32)) 16 (1 : Int32)) a (((((a 2) (7 : Int32).toNatClampNeg) - p2) - (f 16)) &&& (255 : Int32)), a) := by simp only [rAlu, if_neg c_1, if_pos c_45, if_pos c_89, if_neg c_90, if_neg c_98, if_pos c_106, if_neg c_118, if_neg c_122, if_pos c_124]
                    rw [hF]
                    exact KC.retv hx hb hr hlocks hK hP hD hS dX5_alu_242
                  · refine lv_aload_n hx hb dX5_alu_229 rfl (lv_at hl 3 rfl) ?_
                    refine va_get (ci := 5) (v := .ref (o 23)) (C := RX5) (T := TX5) (N := 24) hx hb hts hi5 hown hK hP 0 rfl rfl 3 (by decide) (hts (.fieldLink RX5 16 "InvaderBoardModel" "reg" "[I") (by decide +kernel)) (fun _ h9 => h9) rfl dX5_alu_230 ?_
                    refine lv_bipush (v := 7) hx hb dX5_alu_233 (by decide) ?_
                    refine lv_iload hx hb dX5_alu_235 (lv_at hl 0 rfl) ?_
                    refine lv_sipush (v := 255) hx hb dX5_alu_237 (by decide) ?_
                    refine lv_iand hx hb dX5_alu_240 ?_
                    refine pu_R_a2 hx hb hK hP hD hS (by unfold vp_in; decide) dX5_alu_241 (fun H locs hP hD hS => ?_)
                    have hF : rAlu f a p1 p2 = (rSigns (upd (upd f 14 (1 : Int32)) 16 (1 : Int32)) a (((((a 2) (7 : Int32).toNatClampNeg) - p2) - (f 16)) &&& (255 : Int32)), ua a 2 (upd (a 2) (7 : Int32).toNatClampNeg (((((a 2) (7 : Int32).toNatClampNeg) - p2) - (f 16)) &&& (255 : Int32)))) := by simp only [rAlu, if_neg c_1, if_pos c_45, if_pos c_89, if_neg c_90, if_neg c_98, if_pos c_106, if_neg c_118, if_neg c_122, if_neg c_124]
                    rw [hF]
                    exact KC.retv hx hb hr hlocks hK hP hD hS dX5_alu_242
      · refine lv_iload_n hx hb dX5_alu_36 rfl (lv_at hl 2 rfl) ?_
        refine lv_iload_n hx hb dX5_alu_37 rfl (lv_at hl 5 rfl) ?_
        refine lv_iadd hx hb dX5_alu_38 ?_
        refine lv_iload hx hb dX5_alu_39 (lv_at hl 1 rfl) ?_
        refine lv_iadd hx hb dX5_alu_41 ?_
        refine lv_istore (lv' := [(5, .int _), (4, .int _), (3, .int _), (0, .ref _), (1, .int _), (2, .int _)]) hx hb dX5_alu_42 hl (by decide) rfl (fun ls hl => ?_)
        refine lv_aload_n hx hb dX5_alu_44 rfl (lv_at hl 3 rfl) ?_
        refine lv_iload_n hx hb dX5_alu_45 rfl (lv_at hl 2 rfl) ?_
        refine lv_bipush (v := 15) hx hb dX5_alu_46 (by decide) ?_
        refine lv_iand hx hb dX5_alu_48 ?_
        refine lv_iload_n hx hb dX5_alu_49 rfl (lv_at hl 5 rfl) ?_
        refine lv_bipush (v := 15) hx hb dX5_alu_50 (by decide) ?_
        refine lv_iand hx hb dX5_alu_52 ?_
        refine lv_iadd hx hb dX5_alu_53 ?_
        refine lv_iload hx hb dX5_alu_54 (lv_at hl 1 rfl) ?_
        refine lv_iadd hx hb dX5_alu_56 ?_
        refine lv_bipush (v := 15) hx hb dX5_alu_57 (by decide) ?_
        refine lv_icmp_le (tgt := 66) hx hb dX5_alu_59 (by decide) (fun c_125 => ?_) (fun c_125 => ?_)
        · refine lv_iconst (v := 0) hx hb dX5_alu_66 (by decide) ?_
          refine pu_R_f14 (v := (0 : Int32)) hx hb hts hi5 hown hK hP hD hS (hts (.fieldLink RX5 63 "InvaderBoardModel" "half" "I") (by decide +kernel)) dX5_alu_67 (fun H locs hP hD hS => ?_)
          refine lv_aload_n hx hb dX5_alu_70 rfl (lv_at hl 3 rfl) ?_
          refine lv_iload hx hb dX5_alu_71 (lv_at hl 0 rfl) ?_
          refine lv_sipush (v := 255) hx hb dX5_alu_73 (by decide) ?_
          refine lv_icmp_le (tgt := 83) hx hb dX5_alu_76 (by decide) (fun c_126 => ?_) (fun c_126 => ?_)
          · refine lv_iconst (v := 0) hx hb dX5_alu_83 (by decide) ?_
            refine pu_R_f16 (v := (0 : Int32)) hx hb hts hi5 hown hK hP hD hS (hts (.fieldLink RX5 66 "InvaderBoardModel" "carry" "I") (by decide +kernel)) dX5_alu_84 (fun H locs hP hD hS => ?_)
            refine lv_goto (tgt := 213) hx hb dX5_alu_87 (by decide) ?_
            refine lv_aload_n hx hb dX5_alu_213 rfl (lv_at hl 3 rfl) ?_
            refine lv_iload hx hb dX5_alu_214 (lv_at hl 0 rfl) ?_
            refine lv_sipush (v := 255) hx hb dX5_alu_216 (by decide) ?_
            refine lv_iand hx hb dX5_alu_219 ?_
            refine KC.callv (ci := 5) (rest := []) (wt := wR cI o (rSigns (upd (upd f 14 (0 : Int32)) 16 (0 : Int32)) a (((((a 2) (7 : Int32).toNatClampNeg) + p2) + (f 16)) &&& (255 : Int32))) a) (kX5_signs l D cI o (upd (upd f 14 (0 : Int32)) 16 (0 : Int32)) a (((((a 2) (7 : Int32).toNatClampNeg) + p2) + (f 16)) &&& (255 : Int32))) (cwV 1 hts gX5_alu_X5_signs rfl rfl rfl (by decide +kernel) ⟨Nat.le_of_ble_eq_true rfl, Nat.le_of_ble_eq_true rfl⟩) ⟨hx, hb, hml, hown, hts⟩ hK hP hD hS hA rfl rfl rfl [0, 1, 2, 3, 4, 5, 6] [] [0, 1, 2, 3, 4, 5, 6] (by decide) rfl (wr := []) rfl (by decide) (by decide) (by decide) rfl rfl hl.1 rfl (Nat.le_of_ble_eq_true rfl) dX5_alu_220 ⟨Nat.zero_le _, Nat.zero_le _⟩ (fun H locs hP hD hS => ?_)
            refine lv_iload_n hx hb dX5_alu_223 rfl (lv_at hl 4 rfl) ?_
            refine lv_bipush (v := 7) hx hb dX5_alu_224 (by decide) ?_
            refine lv_icmp_ge (tgt := 242) hx hb dX5_alu_226 (by decide) (fun c_127 => ?_) (fun c_127 => ?_)
            · have hF : rAlu f a p1 p2 = (rSigns (upd (upd f 14 (0 : Int32)) 16 (0 : Int32)) a (((((a 2) (7 : Int32).toNatClampNeg) + p2) + (f 16)) &&& (255 : Int32)), a) := by simp only [rAlu, if_neg c_1, if_pos c_45, if_neg c_89, if_pos c_125, if_pos c_126, if_pos c_127]
              rw [hF]
              exact KC.retv hx hb hr hlocks hK hP hD hS dX5_alu_242
            · refine lv_aload_n hx hb dX5_alu_229 rfl (lv_at hl 3 rfl) ?_
              refine va_get (ci := 5) (v := .ref (o 23)) (C := RX5) (T := TX5) (N := 24) hx hb hts hi5 hown hK hP 0 rfl rfl 3 (by decide) (hts (.fieldLink RX5 16 "InvaderBoardModel" "reg" "[I") (by decide +kernel)) (fun _ h9 => h9) rfl dX5_alu_230 ?_
              refine lv_bipush (v := 7) hx hb dX5_alu_233 (by decide) ?_
              refine lv_iload hx hb dX5_alu_235 (lv_at hl 0 rfl) ?_
              refine lv_sipush (v := 255) hx hb dX5_alu_237 (by decide) ?_
              refine lv_iand hx hb dX5_alu_240 ?_
              refine pu_R_a2 hx hb hK hP hD hS (by unfold vp_in; decide) dX5_alu_241 (fun H locs hP hD hS => ?_)
              have hF : rAlu f a p1 p2 = (rSigns (upd (upd f 14 (0 : Int32)) 16 (0 : Int32)) a (((((a 2) (7 : Int32).toNatClampNeg) + p2) + (f 16)) &&& (255 : Int32)), ua a 2 (upd (a 2) (7 : Int32).toNatClampNeg (((((a 2) (7 : Int32).toNatClampNeg) + p2) + (f 16)) &&& (255 : Int32)))) := by simp only [rAlu, if_neg c_1, if_pos c_45, if_neg c_89, if_pos c_125, if_pos c_126, if_neg c_127]
              rw [hF]
              exact KC.retv hx hb hr hlocks hK hP hD hS dX5_alu_242
          · refine lv_iconst (v := 1) hx hb dX5_alu_79 (by decide) ?_
            refine lv_goto (tgt := 84) hx hb dX5_alu_80 (by decide) ?_
            refine pu_R_f16 (v := (1 : Int32)) hx hb hts hi5 hown hK hP hD hS (hts (.fieldLink RX5 66 "InvaderBoardModel" "carry" "I") (by decide +kernel)) dX5_alu_84 (fun H locs hP hD hS => ?_)
            refine lv_goto (tgt := 213) hx hb dX5_alu_87 (by decide) ?_
            refine lv_aload_n hx hb dX5_alu_213 rfl (lv_at hl 3 rfl) ?_
            refine lv_iload hx hb dX5_alu_214 (lv_at hl 0 rfl) ?_
            refine lv_sipush (v := 255) hx hb dX5_alu_216 (by decide) ?_
            refine lv_iand hx hb dX5_alu_219 ?_
            refine KC.callv (ci := 5) (rest := []) (wt := wR cI o (rSigns (upd (upd f 14 (0 : Int32)) 16 (1 : Int32)) a (((((a 2) (7 : Int32).toNatClampNeg) + p2) + (f 16)) &&& (255 : Int32))) a) (kX5_signs l D cI o (upd (upd f 14 (0 : Int32)) 16 (1 : Int32)) a (((((a 2) (7 : Int32).toNatClampNeg) + p2) + (f 16)) &&& (255 : Int32))) (cwV 1 hts gX5_alu_X5_signs rfl rfl rfl (by decide +kernel) ⟨Nat.le_of_ble_eq_true rfl, Nat.le_of_ble_eq_true rfl⟩) ⟨hx, hb, hml, hown, hts⟩ hK hP hD hS hA rfl rfl rfl [0, 1, 2, 3, 4, 5, 6] [] [0, 1, 2, 3, 4, 5, 6] (by decide) rfl (wr := []) rfl (by decide) (by decide) (by decide) rfl rfl hl.1 rfl (Nat.le_of_ble_eq_true rfl) dX5_alu_220 ⟨Nat.zero_le _, Nat.zero_le _⟩ (fun H locs hP hD hS => ?_)
            refine lv_iload_n hx hb dX5_alu_223 rfl (lv_at hl 4 rfl) ?_
            refine lv_bipush (v := 7) hx hb dX5_alu_224 (by decide) ?_
            refine lv_icmp_ge (tgt := 242) hx hb dX5_alu_226 (by decide) (fun c_128 => ?_) (fun c_128 => ?_)
            · have hF : rAlu f a p1 p2 = (rSigns (upd (upd f 14 (0 : Int32)) 16 (1 : Int32)) a (((((a 2) (7 : Int32).toNatClampNeg) + p2) + (f 16)) &&& (255 : Int32)), a) := by simp only [rAlu, if_neg c_1, if_pos c_45, if_neg c_89, if_pos c_125, if_neg c_126, if_pos c_128]
              rw [hF]
              exact KC.retv hx hb hr hlocks hK hP hD hS dX5_alu_242
            · refine lv_aload_n hx hb dX5_alu_229 rfl (lv_at hl 3 rfl) ?_
              refine va_get (ci := 5) (v := .ref (o 23)) (C := RX5) (T := TX5) (N := 24) hx hb hts hi5 hown hK hP 0 rfl rfl 3 (by decide) (hts (.fieldLink RX5 16 "InvaderBoardModel" "reg" "[I") (by decide +kernel)) (fun _ h9 => h9) rfl dX5_alu_230 ?_
              refine lv_bipush (v := 7) hx hb dX5_alu_233 (by decide) ?_
              refine lv_iload hx hb dX5_alu_235 (lv_at hl 0 rfl) ?_
              refine lv_sipush (v := 255) hx hb dX5_alu_237 (by decide) ?_
              refine lv_iand hx hb dX5_alu_240 ?_
              refine pu_R_a2 hx hb hK hP hD hS (by unfold vp_in; decide) dX5_alu_241 (fun H locs hP hD hS => ?_)
              have hF : rAlu f a p1 p2 = (rSigns (upd (upd f 14 (0 : Int32)) 16 (1 : Int32)) a (((((a 2) (7 : Int32).toNatClampNeg) + p2) + (f 16)) &&& (255 : Int32)), ua a 2 (upd (a 2) (7 : Int32).toNatClampNeg (((((a 2) (7 : Int32).toNatClampNeg) + p2) + (f 16)) &&& (255 : Int32)))) := by simp only [rAlu, if_neg c_1, if_pos c_45, if_neg c_89, if_pos c_125, if_neg c_126, if_neg c_128]
              rw [hF]
              exact KC.retv hx hb hr hlocks hK hP hD hS dX5_alu_242
        · refine lv_iconst (v := 1) hx hb dX5_alu_62 (by decide) ?_
          refine lv_goto (tgt := 67) hx hb dX5_alu_63 (by decide) ?_
          refine pu_R_f14 (v := (1 : Int32)) hx hb hts hi5 hown hK hP hD hS (hts (.fieldLink RX5 63 "InvaderBoardModel" "half" "I") (by decide +kernel)) dX5_alu_67 (fun H locs hP hD hS => ?_)
          refine lv_aload_n hx hb dX5_alu_70 rfl (lv_at hl 3 rfl) ?_
          refine lv_iload hx hb dX5_alu_71 (lv_at hl 0 rfl) ?_
          refine lv_sipush (v := 255) hx hb dX5_alu_73 (by decide) ?_
          refine lv_icmp_le (tgt := 83) hx hb dX5_alu_76 (by decide) (fun c_129 => ?_) (fun c_129 => ?_)
          · refine lv_iconst (v := 0) hx hb dX5_alu_83 (by decide) ?_
            refine pu_R_f16 (v := (0 : Int32)) hx hb hts hi5 hown hK hP hD hS (hts (.fieldLink RX5 66 "InvaderBoardModel" "carry" "I") (by decide +kernel)) dX5_alu_84 (fun H locs hP hD hS => ?_)
            refine lv_goto (tgt := 213) hx hb dX5_alu_87 (by decide) ?_
            refine lv_aload_n hx hb dX5_alu_213 rfl (lv_at hl 3 rfl) ?_
            refine lv_iload hx hb dX5_alu_214 (lv_at hl 0 rfl) ?_
            refine lv_sipush (v := 255) hx hb dX5_alu_216 (by decide) ?_
            refine lv_iand hx hb dX5_alu_219 ?_
            refine KC.callv (ci := 5) (rest := []) (wt := wR cI o (rSigns (upd (upd f 14 (1 : Int32)) 16 (0 : Int32)) a (((((a 2) (7 : Int32).toNatClampNeg) + p2) + (f 16)) &&& (255 : Int32))) a) (kX5_signs l D cI o (upd (upd f 14 (1 : Int32)) 16 (0 : Int32)) a (((((a 2) (7 : Int32).toNatClampNeg) + p2) + (f 16)) &&& (255 : Int32))) (cwV 1 hts gX5_alu_X5_signs rfl rfl rfl (by decide +kernel) ⟨Nat.le_of_ble_eq_true rfl, Nat.le_of_ble_eq_true rfl⟩) ⟨hx, hb, hml, hown, hts⟩ hK hP hD hS hA rfl rfl rfl [0, 1, 2, 3, 4, 5, 6] [] [0, 1, 2, 3, 4, 5, 6] (by decide) rfl (wr := []) rfl (by decide) (by decide) (by decide) rfl rfl hl.1 rfl (Nat.le_of_ble_eq_true rfl) dX5_alu_220 ⟨Nat.zero_le _, Nat.zero_le _⟩ (fun H locs hP hD hS => ?_)
            refine lv_iload_n hx hb dX5_alu_223 rfl (lv_at hl 4 rfl) ?_
            refine lv_bipush (v := 7) hx hb dX5_alu_224 (by decide) ?_
            refine lv_icmp_ge (tgt := 242) hx hb dX5_alu_226 (by decide) (fun c_130 => ?_) (fun c_130 => ?_)
            · have hF : rAlu f a p1 p2 = (rSigns (upd (upd f 14 (1 : Int32)) 16 (0 : Int32)) a (((((a 2) (7 : Int32).toNatClampNeg) + p2) + (f 16)) &&& (255 : Int32)), a) := by simp only [rAlu, if_neg c_1, if_pos c_45, if_neg c_89, if_neg c_125, if_pos c_129, if_pos c_130]
              rw [hF]
              exact KC.retv hx hb hr hlocks hK hP hD hS dX5_alu_242
            · refine lv_aload_n hx hb dX5_alu_229 rfl (lv_at hl 3 rfl) ?_
              refine va_get (ci := 5) (v := .ref (o 23)) (C := RX5) (T := TX5) (N := 24) hx hb hts hi5 hown hK hP 0 rfl rfl 3 (by decide) (hts (.fieldLink RX5 16 "InvaderBoardModel" "reg" "[I") (by decide +kernel)) (fun _ h9 => h9) rfl dX5_alu_230 ?_
              refine lv_bipush (v := 7) hx hb dX5_alu_233 (by decide) ?_
              refine lv_iload hx hb dX5_alu_235 (lv_at hl 0 rfl) ?_
              refine lv_sipush (v := 255) hx hb dX5_alu_237 (by decide) ?_
              refine lv_iand hx hb dX5_alu_240 ?_
              refine pu_R_a2 hx hb hK hP hD hS (by unfold vp_in; decide) dX5_alu_241 (fun H locs hP hD hS => ?_)
              have hF : rAlu f a p1 p2 = (rSigns (upd (upd f 14 (1 : Int32)) 16 (0 : Int32)) a (((((a 2) (7 : Int32).toNatClampNeg) + p2) + (f 16)) &&& (255 : Int32)), ua a 2 (upd (a 2) (7 : Int32).toNatClampNeg (((((a 2) (7 : Int32).toNatClampNeg) + p2) + (f 16)) &&& (255 : Int32)))) := by simp only [rAlu, if_neg c_1, if_pos c_45, if_neg c_89, if_neg c_125, if_pos c_129, if_neg c_130]
              rw [hF]
              exact KC.retv hx hb hr hlocks hK hP hD hS dX5_alu_242
          · refine lv_iconst (v := 1) hx hb dX5_alu_79 (by decide) ?_
            refine lv_goto (tgt := 84) hx hb dX5_alu_80 (by decide) ?_
            refine pu_R_f16 (v := (1 : Int32)) hx hb hts hi5 hown hK hP hD hS (hts (.fieldLink RX5 66 "InvaderBoardModel" "carry" "I") (by decide +kernel)) dX5_alu_84 (fun H locs hP hD hS => ?_)
            refine lv_goto (tgt := 213) hx hb dX5_alu_87 (by decide) ?_
            refine lv_aload_n hx hb dX5_alu_213 rfl (lv_at hl 3 rfl) ?_
            refine lv_iload hx hb dX5_alu_214 (lv_at hl 0 rfl) ?_
            refine lv_sipush (v := 255) hx hb dX5_alu_216 (by decide) ?_
            refine lv_iand hx hb dX5_alu_219 ?_
            refine KC.callv (ci := 5) (rest := []) (wt := wR cI o (rSigns (upd (upd f 14 (1 : Int32)) 16 (1 : Int32)) a (((((a 2) (7 : Int32).toNatClampNeg) + p2) + (f 16)) &&& (255 : Int32))) a) (kX5_signs l D cI o (upd (upd f 14 (1 : Int32)) 16 (1 : Int32)) a (((((a 2) (7 : Int32).toNatClampNeg) + p2) + (f 16)) &&& (255 : Int32))) (cwV 1 hts gX5_alu_X5_signs rfl rfl rfl (by decide +kernel) ⟨Nat.le_of_ble_eq_true rfl, Nat.le_of_ble_eq_true rfl⟩) ⟨hx, hb, hml, hown, hts⟩ hK hP hD hS hA rfl rfl rfl [0, 1, 2, 3, 4, 5, 6] [] [0, 1, 2, 3, 4, 5, 6] (by decide) rfl (wr := []) rfl (by decide) (by decide) (by decide) rfl rfl hl.1 rfl (Nat.le_of_ble_eq_true rfl) dX5_alu_220 ⟨Nat.zero_le _, Nat.zero_le _⟩ (fun H locs hP hD hS => ?_)
            refine lv_iload_n hx hb dX5_alu_223 rfl (lv_at hl 4 rfl) ?_
            refine lv_bipush (v := 7) hx hb dX5_alu_224 (by decide) ?_
            refine lv_icmp_ge (tgt := 242) hx hb dX5_alu_226 (by decide) (fun c_131 => ?_) (fun c_131 => ?_)
            · have hF : rAlu f a p1 p2 = (rSigns (upd (upd f 14 (1 : Int32)) 16 (1 : Int32)) a (((((a 2) (7 : Int32).toNatClampNeg) + p2) + (f 16)) &&& (255 : Int32)), a) := by simp only [rAlu, if_neg c_1, if_pos c_45, if_neg c_89, if_neg c_125, if_neg c_129, if_pos c_131]
              rw [hF]
              exact KC.retv hx hb hr hlocks hK hP hD hS dX5_alu_242
            · refine lv_aload_n hx hb dX5_alu_229 rfl (lv_at hl 3 rfl) ?_
              refine va_get (ci := 5) (v := .ref (o 23)) (C := RX5) (T := TX5) (N := 24) hx hb hts hi5 hown hK hP 0 rfl rfl 3 (by decide) (hts (.fieldLink RX5 16 "InvaderBoardModel" "reg" "[I") (by decide +kernel)) (fun _ h9 => h9) rfl dX5_alu_230 ?_
              refine lv_bipush (v := 7) hx hb dX5_alu_233 (by decide) ?_
              refine lv_iload hx hb dX5_alu_235 (lv_at hl 0 rfl) ?_
              refine lv_sipush (v := 255) hx hb dX5_alu_237 (by decide) ?_
              refine lv_iand hx hb dX5_alu_240 ?_
              refine pu_R_a2 hx hb hK hP hD hS (by unfold vp_in; decide) dX5_alu_241 (fun H locs hP hD hS => ?_)
              have hF : rAlu f a p1 p2 = (rSigns (upd (upd f 14 (1 : Int32)) 16 (1 : Int32)) a (((((a 2) (7 : Int32).toNatClampNeg) + p2) + (f 16)) &&& (255 : Int32)), ua a 2 (upd (a 2) (7 : Int32).toNatClampNeg (((((a 2) (7 : Int32).toNatClampNeg) + p2) + (f 16)) &&& (255 : Int32)))) := by simp only [rAlu, if_neg c_1, if_pos c_45, if_neg c_89, if_neg c_125, if_neg c_129, if_neg c_131]
              rw [hF]
              exact KC.retv hx hb hr hlocks hK hP hD hS dX5_alu_242
def rCount (f : Nat → Int32) (a : Nat → Nat → Int32) (p1 : Int32) (p2 : Int32) : (Nat → Int32) × (Nat → Nat → Int32) :=
  if p2 ≤ 0 then if (((rGet f a p1) + p2) &&& (255 : Int32)) &&& (15 : Int32) = (15 : Int32) then (rSigns (upd f 14 (0 : Int32)) (rSet f a p1 (((rGet f a p1) + p2) &&& (255 : Int32))) (((rGet f a p1) + p2) &&& (255 : Int32)), rSet f a p1 (((rGet f a p1) + p2) &&& (255 : Int32)))
    else (rSigns (upd f 14 (1 : Int32)) (rSet f a p1 (((rGet f a p1) + p2) &&& (255 : Int32))) (((rGet f a p1) + p2) &&& (255 : Int32)), rSet f a p1 (((rGet f a p1) + p2) &&& (255 : Int32)))
  else if (((rGet f a p1) + p2) &&& (255 : Int32)) &&& (15 : Int32) = 0 then (rSigns (upd f 14 (1 : Int32)) (rSet f a p1 (((rGet f a p1) + p2) &&& (255 : Int32))) (((rGet f a p1) + p2) &&& (255 : Int32)), rSet f a p1 (((rGet f a p1) + p2) &&& (255 : Int32)))
    else (rSigns (upd f 14 (0 : Int32)) (rSet f a p1 (((rGet f a p1) + p2) &&& (255 : Int32))) (((rGet f a p1) + p2) &&& (255 : Int32)), rSet f a p1 (((rGet f a p1) + p2) &&& (255 : Int32)))
set_option maxHeartbeats 4000000 in
set_option maxRecDepth 100000 in
theorem kX5_count (l : Launch) (D : va_G) (cI : ClassId) (o : Nat → Nat) (f : Nat → Int32) (a : Nat → Nat → Int32) (p1 : Int32) (p2 : Int32) (h1 : vp_in p1 8) : KC l yX5_count wsX5_count 2 [.ref (o 20), .int p1, .int p2] D cI (wR cI o f a) (wR cI o ((rCount f a p1 p2).1) ((rCount f a p1 p2).2)) none := by
  refine KC.of (cc := cX5_count) (maxL := 4) (by decide) rfl (Nat.le_of_ble_eq_true rfl) ?_
  intro p e s m below meth c A hx hb hr hts hown hlocks hml hK hP hD hS hA ls hl
  have hl : lv_has ls 4 [(0, .ref (o 20)), (1, .int p1), (2, .int p2)] := hl
  have hown : s.vm.findClass RX5 = some m.cls := hown
  have hi5 : ∀ w ∈ u_ws RX5 TX5 24, w ∈ wsX5_count := by decide +kernel
  refine lv_aload_n hx hb dX5_count_0 rfl (lv_at hl 0 rfl) ?_
  refine lv_iload_n hx hb dX5_count_1 rfl (lv_at hl 1 rfl) ?_
  refine KC.calli (ci := 5) (rest := []) (wt := wR cI o f a) (kX5_get l D cI o f a p1 (by first | exact h1 | exact hR | exact hs | exact xin_sh1 h1 | exact xin_a7 _ | exact rNext_nn hR (by assumption) | (unfold vp_in; decide) | decide | exact xin_ng 223 (by decide) (by assumption) (by assumption) | exact xin_le 255 (by decide) (by assumption) (by assumption))) (cwV 1 hts gX5_count_X5_get rfl rfl rfl (by decide +kernel) ⟨Nat.le_of_ble_eq_true rfl, Nat.le_of_ble_eq_true rfl⟩) ⟨hx, hb, hml, hown, hts⟩ hK hP hD hS hA rfl rfl rfl [0, 1, 2, 3, 4, 5, 6] [] [0, 1, 2, 3, 4, 5, 6] (by decide) rfl (wr := []) rfl (by decide) (by decide) (by decide) rfl rfl hl.1 rfl (Nat.le_of_ble_eq_true rfl) dX5_count_2 ⟨Nat.zero_le _, Nat.zero_le _⟩ (fun H locs hP hD hS => ?_)
  refine lv_iload_n hx hb dX5_count_5 rfl (lv_at hl 2 rfl) ?_
  refine lv_iadd hx hb dX5_count_6 ?_
  refine lv_sipush (v := 255) hx hb dX5_count_7 (by decide) ?_
  refine lv_iand hx hb dX5_count_10 ?_
  refine lv_istore_n (lv' := [(3, .int _), (0, .ref _), (1, .int _), (2, .int _)]) hx hb dX5_count_11 rfl hl (by decide) rfl (fun ls hl => ?_)
  refine lv_aload_n hx hb dX5_count_12 rfl (lv_at hl 1 rfl) ?_
  refine lv_iload_n hx hb dX5_count_13 rfl (lv_at hl 2 rfl) ?_
  refine lv_iload_n hx hb dX5_count_14 rfl (lv_at hl 0 rfl) ?_
  refine KC.callv (ci := 5) (rest := []) (wt := wR cI o f (rSet f a p1 (((rGet f a p1) + p2) &&& (255 : Int32)))) (kX5_set l D cI o f a p1 (((rGet f a p1) + p2) &&& (255 : Int32)) (by first | exact h1 | exact hR | exact hs | exact xin_sh1 h1 | exact xin_a7 _ | exact rNext_nn hR (by assumption) | (unfold vp_in; decide) | decide | exact xin_ng 223 (by decide) (by assumption) (by assumption) | exact xin_le 255 (by decide) (by assumption) (by assumption))) (cwV 2 hts gX5_count_X5_set rfl rfl rfl (by decide +kernel) ⟨Nat.le_of_ble_eq_true rfl, Nat.le_of_ble_eq_true rfl⟩) ⟨hx, hb, hml, hown, hts⟩ hK hP hD hS hA rfl rfl rfl [0, 1, 2, 3, 4, 5, 6] [] [0, 1, 2, 3, 4, 5, 6] (by decide) rfl (wr := []) rfl (by decide) (by decide) (by decide) rfl rfl hl.1 rfl (Nat.le_of_ble_eq_true rfl) dX5_count_15 ⟨Nat.zero_le _, Nat.zero_le _⟩ (fun H locs hP hD hS => ?_)
  refine lv_aload_n hx hb dX5_count_18 rfl (lv_at hl 1 rfl) ?_
  refine lv_iload_n hx hb dX5_count_19 rfl (lv_at hl 3 rfl) ?_
  refine lv_if_le (tgt := 38) hx hb dX5_count_20 (by decide) (fun c_1 => ?_) (fun c_1 => ?_)
  · refine lv_iload_n hx hb dX5_count_38 rfl (lv_at hl 0 rfl) ?_
    refine lv_bipush (v := 15) hx hb dX5_count_39 (by decide) ?_
    refine lv_iand hx hb dX5_count_41 ?_
    refine lv_bipush (v := 15) hx hb dX5_count_42 (by decide) ?_
    refine lv_icmp_ne (tgt := 51) hx hb dX5_count_44 (by decide) (fun c_2 => ?_) (fun c_2 => ?_)
    · refine lv_iconst (v := 1) hx hb dX5_count_51 (by decide) ?_
      refine pu_R_f14 (v := (1 : Int32)) hx hb hts hi5 hown hK hP hD hS (hts (.fieldLink RX5 63 "InvaderBoardModel" "half" "I") (by decide +kernel)) dX5_count_52 (fun H locs hP hD hS => ?_)
      refine lv_aload_n hx hb dX5_count_55 rfl (lv_at hl 1 rfl) ?_
      refine lv_iload_n hx hb dX5_count_56 rfl (lv_at hl 0 rfl) ?_
      refine KC.callv (ci := 5) (rest := []) (wt := wR cI o (rSigns (upd f 14 (1 : Int32)) (rSet f a p1 (((rGet f a p1) + p2) &&& (255 : Int32))) (((rGet f a p1) + p2) &&& (255 : Int32))) (rSet f a p1 (((rGet f a p1) + p2) &&& (255 : Int32)))) (kX5_signs l D cI o (upd f 14 (1 : Int32)) (rSet f a p1 (((rGet f a p1) + p2) &&& (255 : Int32))) (((rGet f a p1) + p2) &&& (255 : Int32))) (cwV 1 hts gX5_count_X5_signs rfl rfl rfl (by decide +kernel) ⟨Nat.le_of_ble_eq_true rfl, Nat.le_of_ble_eq_true rfl⟩) ⟨hx, hb, hml, hown, hts⟩ hK hP hD hS hA rfl rfl rfl [0, 1, 2, 3, 4, 5, 6] [] [0, 1, 2, 3, 4, 5, 6] (by decide) rfl (wr := []) rfl (by decide) (by decide) (by decide) rfl rfl hl.1 rfl (Nat.le_of_ble_eq_true rfl) dX5_count_57 ⟨Nat.zero_le _, Nat.zero_le _⟩ (fun H locs hP hD hS => ?_)
      have hF : rCount f a p1 p2 = (rSigns (upd f 14 (1 : Int32)) (rSet f a p1 (((rGet f a p1) + p2) &&& (255 : Int32))) (((rGet f a p1) + p2) &&& (255 : Int32)), rSet f a p1 (((rGet f a p1) + p2) &&& (255 : Int32))) := by simp only [rCount, if_pos c_1, if_neg c_2]
      rw [hF]
      exact KC.retv hx hb hr hlocks hK hP hD hS dX5_count_60
    · refine lv_iconst (v := 0) hx hb dX5_count_47 (by decide) ?_
      refine lv_goto (tgt := 52) hx hb dX5_count_48 (by decide) ?_
      refine pu_R_f14 (v := (0 : Int32)) hx hb hts hi5 hown hK hP hD hS (hts (.fieldLink RX5 63 "InvaderBoardModel" "half" "I") (by decide +kernel)) dX5_count_52 (fun H locs hP hD hS => ?_)
      refine lv_aload_n hx hb dX5_count_55 rfl (lv_at hl 1 rfl) ?_
      refine lv_iload_n hx hb dX5_count_56 rfl (lv_at hl 0 rfl) ?_
      refine KC.callv (ci := 5) (rest := []) (wt := wR cI o (rSigns (upd f 14 (0 : Int32)) (rSet f a p1 (((rGet f a p1) + p2) &&& (255 : Int32))) (((rGet f a p1) + p2) &&& (255 : Int32))) (rSet f a p1 (((rGet f a p1) + p2) &&& (255 : Int32)))) (kX5_signs l D cI o (upd f 14 (0 : Int32)) (rSet f a p1 (((rGet f a p1) + p2) &&& (255 : Int32))) (((rGet f a p1) + p2) &&& (255 : Int32))) (cwV 1 hts gX5_count_X5_signs rfl rfl rfl (by decide +kernel) ⟨Nat.le_of_ble_eq_true rfl, Nat.le_of_ble_eq_true rfl⟩) ⟨hx, hb, hml, hown, hts⟩ hK hP hD hS hA rfl rfl rfl [0, 1, 2, 3, 4, 5, 6] [] [0, 1, 2, 3, 4, 5, 6] (by decide) rfl (wr := []) rfl (by decide) (by decide) (by decide) rfl rfl hl.1 rfl (Nat.le_of_ble_eq_true rfl) dX5_count_57 ⟨Nat.zero_le _, Nat.zero_le _⟩ (fun H locs hP hD hS => ?_)
      have hF : rCount f a p1 p2 = (rSigns (upd f 14 (0 : Int32)) (rSet f a p1 (((rGet f a p1) + p2) &&& (255 : Int32))) (((rGet f a p1) + p2) &&& (255 : Int32)), rSet f a p1 (((rGet f a p1) + p2) &&& (255 : Int32))) := by simp only [rCount, if_pos c_1, if_pos c_2]
      rw [hF]
      exact KC.retv hx hb hr hlocks hK hP hD hS dX5_count_60
  · refine lv_iload_n hx hb dX5_count_23 rfl (lv_at hl 0 rfl) ?_
    refine lv_bipush (v := 15) hx hb dX5_count_24 (by decide) ?_
    refine lv_iand hx hb dX5_count_26 ?_
    refine lv_if_ne (tgt := 34) hx hb dX5_count_27 (by decide) (fun c_3 => ?_) (fun c_3 => ?_)
    · refine lv_iconst (v := 0) hx hb dX5_count_34 (by decide) ?_
      refine lv_goto (tgt := 52) hx hb dX5_count_35 (by decide) ?_
      refine pu_R_f14 (v := (0 : Int32)) hx hb hts hi5 hown hK hP hD hS (hts (.fieldLink RX5 63 "InvaderBoardModel" "half" "I") (by decide +kernel)) dX5_count_52 (fun H locs hP hD hS => ?_)
      refine lv_aload_n hx hb dX5_count_55 rfl (lv_at hl 1 rfl) ?_
      refine lv_iload_n hx hb dX5_count_56 rfl (lv_at hl 0 rfl) ?_
      refine KC.callv (ci := 5) (rest := []) (wt := wR cI o (rSigns (upd f 14 (0 : Int32)) (rSet f a p1 (((rGet f a p1) + p2) &&& (255 : Int32))) (((rGet f a p1) + p2) &&& (255 : Int32))) (rSet f a p1 (((rGet f a p1) + p2) &&& (255 : Int32)))) (kX5_signs l D cI o (upd f 14 (0 : Int32)) (rSet f a p1 (((rGet f a p1) + p2) &&& (255 : Int32))) (((rGet f a p1) + p2) &&& (255 : Int32))) (cwV 1 hts gX5_count_X5_signs rfl rfl rfl (by decide +kernel) ⟨Nat.le_of_ble_eq_true rfl, Nat.le_of_ble_eq_true rfl⟩) ⟨hx, hb, hml, hown, hts⟩ hK hP hD hS hA rfl rfl rfl [0, 1, 2, 3, 4, 5, 6] [] [0, 1, 2, 3, 4, 5, 6] (by decide) rfl (wr := []) rfl (by decide) (by decide) (by decide) rfl rfl hl.1 rfl (Nat.le_of_ble_eq_true rfl) dX5_count_57 ⟨Nat.zero_le _, Nat.zero_le _⟩ (fun H locs hP hD hS => ?_)
      have hF : rCount f a p1 p2 = (rSigns (upd f 14 (0 : Int32)) (rSet f a p1 (((rGet f a p1) + p2) &&& (255 : Int32))) (((rGet f a p1) + p2) &&& (255 : Int32)), rSet f a p1 (((rGet f a p1) + p2) &&& (255 : Int32))) := by simp only [rCount, if_neg c_1, if_neg c_3]
      rw [hF]
      exact KC.retv hx hb hr hlocks hK hP hD hS dX5_count_60
    · refine lv_iconst (v := 1) hx hb dX5_count_30 (by decide) ?_
      refine lv_goto (tgt := 52) hx hb dX5_count_31 (by decide) ?_
      refine pu_R_f14 (v := (1 : Int32)) hx hb hts hi5 hown hK hP hD hS (hts (.fieldLink RX5 63 "InvaderBoardModel" "half" "I") (by decide +kernel)) dX5_count_52 (fun H locs hP hD hS => ?_)
      refine lv_aload_n hx hb dX5_count_55 rfl (lv_at hl 1 rfl) ?_
      refine lv_iload_n hx hb dX5_count_56 rfl (lv_at hl 0 rfl) ?_
      refine KC.callv (ci := 5) (rest := []) (wt := wR cI o (rSigns (upd f 14 (1 : Int32)) (rSet f a p1 (((rGet f a p1) + p2) &&& (255 : Int32))) (((rGet f a p1) + p2) &&& (255 : Int32))) (rSet f a p1 (((rGet f a p1) + p2) &&& (255 : Int32)))) (kX5_signs l D cI o (upd f 14 (1 : Int32)) (rSet f a p1 (((rGet f a p1) + p2) &&& (255 : Int32))) (((rGet f a p1) + p2) &&& (255 : Int32))) (cwV 1 hts gX5_count_X5_signs rfl rfl rfl (by decide +kernel) ⟨Nat.le_of_ble_eq_true rfl, Nat.le_of_ble_eq_true rfl⟩) ⟨hx, hb, hml, hown, hts⟩ hK hP hD hS hA rfl rfl rfl [0, 1, 2, 3, 4, 5, 6] [] [0, 1, 2, 3, 4, 5, 6] (by decide) rfl (wr := []) rfl (by decide) (by decide) (by decide) rfl rfl hl.1 rfl (Nat.le_of_ble_eq_true rfl) dX5_count_57 ⟨Nat.zero_le _, Nat.zero_le _⟩ (fun H locs hP hD hS => ?_)
      have hF : rCount f a p1 p2 = (rSigns (upd f 14 (1 : Int32)) (rSet f a p1 (((rGet f a p1) + p2) &&& (255 : Int32))) (((rGet f a p1) + p2) &&& (255 : Int32)), rSet f a p1 (((rGet f a p1) + p2) &&& (255 : Int32))) := by simp only [rCount, if_neg c_1, if_pos c_3]
      rw [hF]
      exact KC.retv hx hb hr hlocks hK hP hD hS dX5_count_60
def rAdjust (f : Nat → Int32) (a : Nat → Nat → Int32)  : (Nat → Int32) × (Nat → Nat → Int32) :=
  if (9 : Int32) < (((a 2) (7 : Int32).toNatClampNeg) &&& (15 : Int32)) then if (153 : Int32) < ((a 2) (7 : Int32).toNatClampNeg) then if ((((a 2) (7 : Int32).toNatClampNeg) &&& (15 : Int32)) + (6 : Int32)) ≤ (15 : Int32) then (rSigns (upd (upd f 14 (0 : Int32)) 16 (1 : Int32)) (ua a 2 (upd (a 2) (7 : Int32).toNatClampNeg (((((a 2) (7 : Int32).toNatClampNeg) + (6 : Int32)) + (96 : Int32)) &&& (255 : Int32)))) ((upd (a 2) (7 : Int32).toNatClampNeg (((((a 2) (7 : Int32).toNatClampNeg) + (6 : Int32)) + (96 : Int32)) &&& (255 : Int32))) (7 : Int32).toNatClampNeg), ua a 2 (upd (a 2) (7 : Int32).toNatClampNeg (((((a 2) (7 : Int32).toNatClampNeg) + (6 : Int32)) + (96 : Int32)) &&& (255 : Int32))))
      else (rSigns (upd (upd f 14 (1 : Int32)) 16 (1 : Int32)) (ua a 2 (upd (a 2) (7 : Int32).toNatClampNeg (((((a 2) (7 : Int32).toNatClampNeg) + (6 : Int32)) + (96 : Int32)) &&& (255 : Int32)))) ((upd (a 2) (7 : Int32).toNatClampNeg (((((a 2) (7 : Int32).toNatClampNeg) + (6 : Int32)) + (96 : Int32)) &&& (255 : Int32))) (7 : Int32).toNatClampNeg), ua a 2 (upd (a 2) (7 : Int32).toNatClampNeg (((((a 2) (7 : Int32).toNatClampNeg) + (6 : Int32)) + (96 : Int32)) &&& (255 : Int32))))
    else if f 16 = (1 : Int32) then if ((((a 2) (7 : Int32).toNatClampNeg) &&& (15 : Int32)) + (6 : Int32)) ≤ (15 : Int32) then (rSigns (upd (upd f 14 (0 : Int32)) 16 (1 : Int32)) (ua a 2 (upd (a 2) (7 : Int32).toNatClampNeg (((((a 2) (7 : Int32).toNatClampNeg) + (6 : Int32)) + (96 : Int32)) &&& (255 : Int32)))) ((upd (a 2) (7 : Int32).toNatClampNeg (((((a 2) (7 : Int32).toNatClampNeg) + (6 : Int32)) + (96 : Int32)) &&& (255 : Int32))) (7 : Int32).toNatClampNeg), ua a 2 (upd (a 2) (7 : Int32).toNatClampNeg (((((a 2) (7 : Int32).toNatClampNeg) + (6 : Int32)) + (96 : Int32)) &&& (255 : Int32))))
        else (rSigns (upd (upd f 14 (1 : Int32)) 16 (1 : Int32)) (ua a 2 (upd (a 2) (7 : Int32).toNatClampNeg (((((a 2) (7 : Int32).toNatClampNeg) + (6 : Int32)) + (96 : Int32)) &&& (255 : Int32)))) ((upd (a 2) (7 : Int32).toNatClampNeg (((((a 2) (7 : Int32).toNatClampNeg) + (6 : Int32)) + (96 : Int32)) &&& (255 : Int32))) (7 : Int32).toNatClampNeg), ua a 2 (upd (a 2) (7 : Int32).toNatClampNeg (((((a 2) (7 : Int32).toNatClampNeg) + (6 : Int32)) + (96 : Int32)) &&& (255 : Int32))))
      else if ((((a 2) (7 : Int32).toNatClampNeg) &&& (15 : Int32)) + (6 : Int32)) ≤ (15 : Int32) then (rSigns (upd (upd f 14 (0 : Int32)) 16 (0 : Int32)) (ua a 2 (upd (a 2) (7 : Int32).toNatClampNeg (((((a 2) (7 : Int32).toNatClampNeg) + (6 : Int32)) + (0 : Int32)) &&& (255 : Int32)))) ((upd (a 2) (7 : Int32).toNatClampNeg (((((a 2) (7 : Int32).toNatClampNeg) + (6 : Int32)) + (0 : Int32)) &&& (255 : Int32))) (7 : Int32).toNatClampNeg), ua a 2 (upd (a 2) (7 : Int32).toNatClampNeg (((((a 2) (7 : Int32).toNatClampNeg) + (6 : Int32)) + (0 : Int32)) &&& (255 : Int32))))
        else (rSigns (upd (upd f 14 (1 : Int32)) 16 (0 : Int32)) (ua a 2 (upd (a 2) (7 : Int32).toNatClampNeg (((((a 2) (7 : Int32).toNatClampNeg) + (6 : Int32)) + (0 : Int32)) &&& (255 : Int32)))) ((upd (a 2) (7 : Int32).toNatClampNeg (((((a 2) (7 : Int32).toNatClampNeg) + (6 : Int32)) + (0 : Int32)) &&& (255 : Int32))) (7 : Int32).toNatClampNeg), ua a 2 (upd (a 2) (7 : Int32).toNatClampNeg (((((a 2) (7 : Int32).toNatClampNeg) + (6 : Int32)) + (0 : Int32)) &&& (255 : Int32))))
  else if f 14 = (1 : Int32) then if (153 : Int32) < ((a 2) (7 : Int32).toNatClampNeg) then if ((((a 2) (7 : Int32).toNatClampNeg) &&& (15 : Int32)) + (6 : Int32)) ≤ (15 : Int32) then (rSigns (upd (upd f 14 (0 : Int32)) 16 (1 : Int32)) (ua a 2 (upd (a 2) (7 : Int32).toNatClampNeg (((((a 2) (7 : Int32).toNatClampNeg) + (6 : Int32)) + (96 : Int32)) &&& (255 : Int32)))) ((upd (a 2) (7 : Int32).toNatClampNeg (((((a 2) (7 : Int32).toNatClampNeg) + (6 : Int32)) + (96 : Int32)) &&& (255 : Int32))) (7 : Int32).toNatClampNeg), ua a 2 (upd (a 2) (7 : Int32).toNatClampNeg (((((a 2) (7 : Int32).toNatClampNeg) + (6 : Int32)) + (96 : Int32)) &&& (255 : Int32))))
        else (rSigns (upd (upd f 14 (1 : Int32)) 16 (1 : Int32)) (ua a 2 (upd (a 2) (7 : Int32).toNatClampNeg (((((a 2) (7 : Int32).toNatClampNeg) + (6 : Int32)) + (96 : Int32)) &&& (255 : Int32)))) ((upd (a 2) (7 : Int32).toNatClampNeg (((((a 2) (7 : Int32).toNatClampNeg) + (6 : Int32)) + (96 : Int32)) &&& (255 : Int32))) (7 : Int32).toNatClampNeg), ua a 2 (upd (a 2) (7 : Int32).toNatClampNeg (((((a 2) (7 : Int32).toNatClampNeg) + (6 : Int32)) + (96 : Int32)) &&& (255 : Int32))))
      else if f 16 = (1 : Int32) then if ((((a 2) (7 : Int32).toNatClampNeg) &&& (15 : Int32)) + (6 : Int32)) ≤ (15 : Int32) then (rSigns (upd (upd f 14 (0 : Int32)) 16 (1 : Int32)) (ua a 2 (upd (a 2) (7 : Int32).toNatClampNeg (((((a 2) (7 : Int32).toNatClampNeg) + (6 : Int32)) + (96 : Int32)) &&& (255 : Int32)))) ((upd (a 2) (7 : Int32).toNatClampNeg (((((a 2) (7 : Int32).toNatClampNeg) + (6 : Int32)) + (96 : Int32)) &&& (255 : Int32))) (7 : Int32).toNatClampNeg), ua a 2 (upd (a 2) (7 : Int32).toNatClampNeg (((((a 2) (7 : Int32).toNatClampNeg) + (6 : Int32)) + (96 : Int32)) &&& (255 : Int32))))
          else (rSigns (upd (upd f 14 (1 : Int32)) 16 (1 : Int32)) (ua a 2 (upd (a 2) (7 : Int32).toNatClampNeg (((((a 2) (7 : Int32).toNatClampNeg) + (6 : Int32)) + (96 : Int32)) &&& (255 : Int32)))) ((upd (a 2) (7 : Int32).toNatClampNeg (((((a 2) (7 : Int32).toNatClampNeg) + (6 : Int32)) + (96 : Int32)) &&& (255 : Int32))) (7 : Int32).toNatClampNeg), ua a 2 (upd (a 2) (7 : Int32).toNatClampNeg (((((a 2) (7 : Int32).toNatClampNeg) + (6 : Int32)) + (96 : Int32)) &&& (255 : Int32))))
        else if ((((a 2) (7 : Int32).toNatClampNeg) &&& (15 : Int32)) + (6 : Int32)) ≤ (15 : Int32) then (rSigns (upd (upd f 14 (0 : Int32)) 16 (0 : Int32)) (ua a 2 (upd (a 2) (7 : Int32).toNatClampNeg (((((a 2) (7 : Int32).toNatClampNeg) + (6 : Int32)) + (0 : Int32)) &&& (255 : Int32)))) ((upd (a 2) (7 : Int32).toNatClampNeg (((((a 2) (7 : Int32).toNatClampNeg) + (6 : Int32)) + (0 : Int32)) &&& (255 : Int32))) (7 : Int32).toNatClampNeg), ua a 2 (upd (a 2) (7 : Int32).toNatClampNeg (((((a 2) (7 : Int32).toNatClampNeg) + (6 : Int32)) + (0 : Int32)) &&& (255 : Int32))))
          else (rSigns (upd (upd f 14 (1 : Int32)) 16 (0 : Int32)) (ua a 2 (upd (a 2) (7 : Int32).toNatClampNeg (((((a 2) (7 : Int32).toNatClampNeg) + (6 : Int32)) + (0 : Int32)) &&& (255 : Int32)))) ((upd (a 2) (7 : Int32).toNatClampNeg (((((a 2) (7 : Int32).toNatClampNeg) + (6 : Int32)) + (0 : Int32)) &&& (255 : Int32))) (7 : Int32).toNatClampNeg), ua a 2 (upd (a 2) (7 : Int32).toNatClampNeg (((((a 2) (7 : Int32).toNatClampNeg) + (6 : Int32)) + (0 : Int32)) &&& (255 : Int32))))
    else if (153 : Int32) < ((a 2) (7 : Int32).toNatClampNeg) then if ((((a 2) (7 : Int32).toNatClampNeg) &&& (15 : Int32)) + (0 : Int32)) ≤ (15 : Int32) then (rSigns (upd (upd f 14 (0 : Int32)) 16 (1 : Int32)) (ua a 2 (upd (a 2) (7 : Int32).toNatClampNeg (((((a 2) (7 : Int32).toNatClampNeg) + (0 : Int32)) + (96 : Int32)) &&& (255 : Int32)))) ((upd (a 2) (7 : Int32).toNatClampNeg (((((a 2) (7 : Int32).toNatClampNeg) + (0 : Int32)) + (96 : Int32)) &&& (255 : Int32))) (7 : Int32).toNatClampNeg), ua a 2 (upd (a 2) (7 : Int32).toNatClampNeg (((((a 2) (7 : Int32).toNatClampNeg) + (0 : Int32)) + (96 : Int32)) &&& (255 : Int32))))
        else (rSigns (upd (upd f 14 (1 : Int32)) 16 (1 : Int32)) (ua a 2 (upd (a 2) (7 : Int32).toNatClampNeg (((((a 2) (7 : Int32).toNatClampNeg) + (0 : Int32)) + (96 : Int32)) &&& (255 : Int32)))) ((upd (a 2) (7 : Int32).toNatClampNeg (((((a 2) (7 : Int32).toNatClampNeg) + (0 : Int32)) + (96 : Int32)) &&& (255 : Int32))) (7 : Int32).toNatClampNeg), ua a 2 (upd (a 2) (7 : Int32).toNatClampNeg (((((a 2) (7 : Int32).toNatClampNeg) + (0 : Int32)) + (96 : Int32)) &&& (255 : Int32))))
      else if f 16 = (1 : Int32) then if ((((a 2) (7 : Int32).toNatClampNeg) &&& (15 : Int32)) + (0 : Int32)) ≤ (15 : Int32) then (rSigns (upd (upd f 14 (0 : Int32)) 16 (1 : Int32)) (ua a 2 (upd (a 2) (7 : Int32).toNatClampNeg (((((a 2) (7 : Int32).toNatClampNeg) + (0 : Int32)) + (96 : Int32)) &&& (255 : Int32)))) ((upd (a 2) (7 : Int32).toNatClampNeg (((((a 2) (7 : Int32).toNatClampNeg) + (0 : Int32)) + (96 : Int32)) &&& (255 : Int32))) (7 : Int32).toNatClampNeg), ua a 2 (upd (a 2) (7 : Int32).toNatClampNeg (((((a 2) (7 : Int32).toNatClampNeg) + (0 : Int32)) + (96 : Int32)) &&& (255 : Int32))))
          else (rSigns (upd (upd f 14 (1 : Int32)) 16 (1 : Int32)) (ua a 2 (upd (a 2) (7 : Int32).toNatClampNeg (((((a 2) (7 : Int32).toNatClampNeg) + (0 : Int32)) + (96 : Int32)) &&& (255 : Int32)))) ((upd (a 2) (7 : Int32).toNatClampNeg (((((a 2) (7 : Int32).toNatClampNeg) + (0 : Int32)) + (96 : Int32)) &&& (255 : Int32))) (7 : Int32).toNatClampNeg), ua a 2 (upd (a 2) (7 : Int32).toNatClampNeg (((((a 2) (7 : Int32).toNatClampNeg) + (0 : Int32)) + (96 : Int32)) &&& (255 : Int32))))
        else if ((((a 2) (7 : Int32).toNatClampNeg) &&& (15 : Int32)) + (0 : Int32)) ≤ (15 : Int32) then (rSigns (upd (upd f 14 (0 : Int32)) 16 (0 : Int32)) (ua a 2 (upd (a 2) (7 : Int32).toNatClampNeg (((((a 2) (7 : Int32).toNatClampNeg) + (0 : Int32)) + (0 : Int32)) &&& (255 : Int32)))) ((upd (a 2) (7 : Int32).toNatClampNeg (((((a 2) (7 : Int32).toNatClampNeg) + (0 : Int32)) + (0 : Int32)) &&& (255 : Int32))) (7 : Int32).toNatClampNeg), ua a 2 (upd (a 2) (7 : Int32).toNatClampNeg (((((a 2) (7 : Int32).toNatClampNeg) + (0 : Int32)) + (0 : Int32)) &&& (255 : Int32))))
          else (rSigns (upd (upd f 14 (1 : Int32)) 16 (0 : Int32)) (ua a 2 (upd (a 2) (7 : Int32).toNatClampNeg (((((a 2) (7 : Int32).toNatClampNeg) + (0 : Int32)) + (0 : Int32)) &&& (255 : Int32)))) ((upd (a 2) (7 : Int32).toNatClampNeg (((((a 2) (7 : Int32).toNatClampNeg) + (0 : Int32)) + (0 : Int32)) &&& (255 : Int32))) (7 : Int32).toNatClampNeg), ua a 2 (upd (a 2) (7 : Int32).toNatClampNeg (((((a 2) (7 : Int32).toNatClampNeg) + (0 : Int32)) + (0 : Int32)) &&& (255 : Int32))))
set_option maxHeartbeats 4000000 in
set_option maxRecDepth 100000 in
theorem kX5_adjust (l : Launch) (D : va_G) (cI : ClassId) (o : Nat → Nat) (f : Nat → Int32) (a : Nat → Nat → Int32)  : KC l yX5_adjust wsX5_adjust 1 [.ref (o 20)] D cI (wR cI o f a) (wR cI o ((rAdjust f a).1) ((rAdjust f a).2)) none := by
  refine KC.of (cc := cX5_adjust) (maxL := 4) (by decide) rfl (Nat.le_of_ble_eq_true rfl) ?_
  intro p e s m below meth c A hx hb hr hts hown hlocks hml hK hP hD hS hA ls hl
  have hl : lv_has ls 4 [(0, .ref (o 20))] := hl
  have hown : s.vm.findClass RX5 = some m.cls := hown
  have hi5 : ∀ w ∈ u_ws RX5 TX5 24, w ∈ wsX5_adjust := by decide +kernel
  refine lv_aload_n hx hb dX5_adjust_0 rfl (lv_at hl 0 rfl) ?_
  refine va_get (ci := 5) (v := .ref (o 23)) (C := RX5) (T := TX5) (N := 24) hx hb hts hi5 hown hK hP 0 rfl rfl 3 (by decide) (hts (.fieldLink RX5 16 "InvaderBoardModel" "reg" "[I") (by decide +kernel)) (fun _ h9 => h9) rfl dX5_adjust_1 ?_
  refine lv_bipush (v := 7) hx hb dX5_adjust_4 (by decide) ?_
  refine va_iald (f := a 2) hx hb hK hP 3 0 rfl rfl (by unfold vp_in; decide) dX5_adjust_6 ?_
  refine lv_istore_n (lv' := [(1, .int _), (0, .ref _)]) hx hb dX5_adjust_7 rfl hl (by decide) rfl (fun ls hl => ?_)
  refine lv_iload_n hx hb dX5_adjust_8 rfl (lv_at hl 0 rfl) ?_
  refine lv_bipush (v := 15) hx hb dX5_adjust_9 (by decide) ?_
  refine lv_iand hx hb dX5_adjust_11 ?_
  refine lv_bipush (v := 9) hx hb dX5_adjust_12 (by decide) ?_
  refine lv_icmp_gt (tgt := 25) hx hb dX5_adjust_14 (by decide) (fun c_1 => ?_) (fun c_1 => ?_)
  · refine lv_bipush (v := 6) hx hb dX5_adjust_25 (by decide) ?_
    refine lv_goto (tgt := 31) hx hb dX5_adjust_27 (by decide) ?_
    refine lv_istore_n (lv' := [(2, .int _), (1, .int _), (0, .ref _)]) hx hb dX5_adjust_31 rfl hl (by decide) rfl (fun ls hl => ?_)
    refine lv_iload_n hx hb dX5_adjust_32 rfl (lv_at hl 1 rfl) ?_
    refine lv_sipush (v := 153) hx hb dX5_adjust_33 (by decide) ?_
    refine lv_icmp_gt (tgt := 47) hx hb dX5_adjust_36 (by decide) (fun c_2 => ?_) (fun c_2 => ?_)
    · refine lv_iconst (v := 1) hx hb dX5_adjust_47 (by decide) ?_
      refine lv_goto (tgt := 52) hx hb dX5_adjust_48 (by decide) ?_
      refine lv_istore_n (lv' := [(3, .int _), (2, .int _), (1, .int _), (0, .ref _)]) hx hb dX5_adjust_52 rfl hl (by decide) rfl (fun ls hl => ?_)
      refine lv_aload_n hx hb dX5_adjust_53 rfl (lv_at hl 3 rfl) ?_
      refine lv_iload_n hx hb dX5_adjust_54 rfl (lv_at hl 2 rfl) ?_
      refine lv_bipush (v := 15) hx hb dX5_adjust_55 (by decide) ?_
      refine lv_iand hx hb dX5_adjust_57 ?_
      refine lv_iload_n hx hb dX5_adjust_58 rfl (lv_at hl 1 rfl) ?_
      refine lv_iadd hx hb dX5_adjust_59 ?_
      refine lv_bipush (v := 15) hx hb dX5_adjust_60 (by decide) ?_
      refine lv_icmp_le (tgt := 69) hx hb dX5_adjust_62 (by decide) (fun c_3 => ?_) (fun c_3 => ?_)
      · refine lv_iconst (v := 0) hx hb dX5_adjust_69 (by decide) ?_
        refine pu_R_f14 (v := (0 : Int32)) hx hb hts hi5 hown hK hP hD hS (hts (.fieldLink RX5 63 "InvaderBoardModel" "half" "I") (by decide +kernel)) dX5_adjust_70 (fun H locs hP hD hS => ?_)
        refine lv_aload_n hx hb dX5_adjust_73 rfl (lv_at hl 3 rfl) ?_
        refine lv_iload_n hx hb dX5_adjust_74 rfl (lv_at hl 0 rfl) ?_
        refine lv_if_eq (tgt := 82) hx hb dX5_adjust_75 (by decide) (fun c_4 => ?_) (fun c_4 => ?_)
        · exact absurd c_4 (by decide)
        · refine lv_iconst (v := 1) hx hb dX5_adjust_78 (by decide) ?_
          refine lv_goto (tgt := 83) hx hb dX5_adjust_79 (by decide) ?_
          refine pu_R_f16 (v := (1 : Int32)) hx hb hts hi5 hown hK hP hD hS (hts (.fieldLink RX5 66 "InvaderBoardModel" "carry" "I") (by decide +kernel)) dX5_adjust_83 (fun H locs hP hD hS => ?_)
          refine lv_aload_n hx hb dX5_adjust_86 rfl (lv_at hl 3 rfl) ?_
          refine va_get (ci := 5) (v := .ref (o 23)) (C := RX5) (T := TX5) (N := 24) hx hb hts hi5 hown hK hP 0 rfl rfl 3 (by decide) (hts (.fieldLink RX5 16 "InvaderBoardModel" "reg" "[I") (by decide +kernel)) (fun _ h9 => h9) rfl dX5_adjust_87 ?_
          refine lv_bipush (v := 7) hx hb dX5_adjust_90 (by decide) ?_
          refine lv_iload_n hx hb dX5_adjust_92 rfl (lv_at hl 2 rfl) ?_
          refine lv_iload_n hx hb dX5_adjust_93 rfl (lv_at hl 1 rfl) ?_
          refine lv_iadd hx hb dX5_adjust_94 ?_
          refine lv_iload_n hx hb dX5_adjust_95 rfl (lv_at hl 0 rfl) ?_
          refine lv_if_eq (tgt := 104) hx hb dX5_adjust_96 (by decide) (fun c_5 => ?_) (fun c_5 => ?_)
          · exact absurd c_5 (by decide)
          · refine lv_bipush (v := 96) hx hb dX5_adjust_99 (by decide) ?_
            refine lv_goto (tgt := 105) hx hb dX5_adjust_101 (by decide) ?_
            refine lv_iadd hx hb dX5_adjust_105 ?_
            refine lv_sipush (v := 255) hx hb dX5_adjust_106 (by decide) ?_
            refine lv_iand hx hb dX5_adjust_109 ?_
            refine pu_R_a2 hx hb hK hP hD hS (by unfold vp_in; decide) dX5_adjust_110 (fun H locs hP hD hS => ?_)
            refine lv_aload_n hx hb dX5_adjust_111 rfl (lv_at hl 3 rfl) ?_
            refine lv_aload_n hx hb dX5_adjust_112 rfl (lv_at hl 3 rfl) ?_
            refine va_get (ci := 5) (v := .ref (o 23)) (C := RX5) (T := TX5) (N := 24) hx hb hts hi5 hown hK hP 0 rfl rfl 3 (by decide) (hts (.fieldLink RX5 16 "InvaderBoardModel" "reg" "[I") (by decide +kernel)) (fun _ h9 => h9) rfl dX5_adjust_113 ?_
            refine lv_bipush (v := 7) hx hb dX5_adjust_116 (by decide) ?_
            refine va_iald (f := upd (a 2) (7 : Int32).toNatClampNeg (((((a 2) (7 : Int32).toNatClampNeg) + (6 : Int32)) + (96 : Int32)) &&& (255 : Int32))) hx hb hK hP 3 0 rfl rfl (by unfold vp_in; decide) dX5_adjust_118 ?_
            refine KC.callv (ci := 5) (rest := []) (wt := wR cI o (rSigns (upd (upd f 14 (0 : Int32)) 16 (1 : Int32)) (ua a 2 (upd (a 2) (7 : Int32).toNatClampNeg (((((a 2) (7 : Int32).toNatClampNeg) + (6 : Int32)) + (96 : Int32)) &&& (255 : Int32)))) ((upd (a 2) (7 : Int32).toNatClampNeg (((((a 2) (7 : Int32).toNatClampNeg) + (6 : Int32)) + (96 : Int32)) &&& (255 : Int32))) (7 : Int32).toNatClampNeg)) (ua a 2 (upd (a 2) (7 : Int32).toNatClampNeg (((((a 2) (7 : Int32).toNatClampNeg) + (6 : Int32)) + (96 : Int32)) &&& (255 : Int32))))) (kX5_signs l D cI o (upd (upd f 14 (0 : Int32)) 16 (1 : Int32)) (ua a 2 (upd (a 2) (7 : Int32).toNatClampNeg (((((a 2) (7 : Int32).toNatClampNeg) + (6 : Int32)) + (96 : Int32)) &&& (255 : Int32)))) ((upd (a 2) (7 : Int32).toNatClampNeg (((((a 2) (7 : Int32).toNatClampNeg) + (6 : Int32)) + (96 : Int32)) &&& (255 : Int32))) (7 : Int32).toNatClampNeg)) (cwV 1 hts gX5_adjust_X5_signs rfl rfl rfl (by decide +kernel) ⟨Nat.le_of_ble_eq_true rfl, Nat.le_of_ble_eq_true rfl⟩) ⟨hx, hb, hml, hown, hts⟩ hK hP hD hS hA rfl rfl rfl [0, 1, 2, 3, 4, 5, 6] [] [0, 1, 2, 3, 4, 5, 6] (by decide) rfl (wr := []) rfl (by decide) (by decide) (by decide) rfl rfl hl.1 rfl (Nat.le_of_ble_eq_true rfl) dX5_adjust_119 ⟨Nat.zero_le _, Nat.zero_le _⟩ (fun H locs hP hD hS => ?_)
            have hF : rAdjust f a = (rSigns (upd (upd f 14 (0 : Int32)) 16 (1 : Int32)) (ua a 2 (upd (a 2) (7 : Int32).toNatClampNeg (((((a 2) (7 : Int32).toNatClampNeg) + (6 : Int32)) + (96 : Int32)) &&& (255 : Int32)))) ((upd (a 2) (7 : Int32).toNatClampNeg (((((a 2) (7 : Int32).toNatClampNeg) + (6 : Int32)) + (96 : Int32)) &&& (255 : Int32))) (7 : Int32).toNatClampNeg), ua a 2 (upd (a 2) (7 : Int32).toNatClampNeg (((((a 2) (7 : Int32).toNatClampNeg) + (6 : Int32)) + (96 : Int32)) &&& (255 : Int32)))) := by simp only [rAdjust, if_pos c_1, if_pos c_2, if_pos c_3]
            rw [hF]
            exact KC.retv hx hb hr hlocks hK hP hD hS dX5_adjust_122
      · refine lv_iconst (v := 1) hx hb dX5_adjust_65 (by decide) ?_
        refine lv_goto (tgt := 70) hx hb dX5_adjust_66 (by decide) ?_
        refine pu_R_f14 (v := (1 : Int32)) hx hb hts hi5 hown hK hP hD hS (hts (.fieldLink RX5 63 "InvaderBoardModel" "half" "I") (by decide +kernel)) dX5_adjust_70 (fun H locs hP hD hS => ?_)
        refine lv_aload_n hx hb dX5_adjust_73 rfl (lv_at hl 3 rfl) ?_
        refine lv_iload_n hx hb dX5_adjust_74 rfl (lv_at hl 0 rfl) ?_
        refine lv_if_eq (tgt := 82) hx hb dX5_adjust_75 (by decide) (fun c_6 => ?_) (fun c_6 => ?_)
        · exact absurd c_6 (by decide)
        · refine lv_iconst (v := 1) hx hb dX5_adjust_78 (by decide) ?_
          refine lv_goto (tgt := 83) hx hb dX5_adjust_79 (by decide) ?_
          refine pu_R_f16 (v := (1 : Int32)) hx hb hts hi5 hown hK hP hD hS (hts (.fieldLink RX5 66 "InvaderBoardModel" "carry" "I") (by decide +kernel)) dX5_adjust_83 (fun H locs hP hD hS => ?_)
          refine lv_aload_n hx hb dX5_adjust_86 rfl (lv_at hl 3 rfl) ?_
          refine va_get (ci := 5) (v := .ref (o 23)) (C := RX5) (T := TX5) (N := 24) hx hb hts hi5 hown hK hP 0 rfl rfl 3 (by decide) (hts (.fieldLink RX5 16 "InvaderBoardModel" "reg" "[I") (by decide +kernel)) (fun _ h9 => h9) rfl dX5_adjust_87 ?_
          refine lv_bipush (v := 7) hx hb dX5_adjust_90 (by decide) ?_
          refine lv_iload_n hx hb dX5_adjust_92 rfl (lv_at hl 2 rfl) ?_
          refine lv_iload_n hx hb dX5_adjust_93 rfl (lv_at hl 1 rfl) ?_
          refine lv_iadd hx hb dX5_adjust_94 ?_
          refine lv_iload_n hx hb dX5_adjust_95 rfl (lv_at hl 0 rfl) ?_
          refine lv_if_eq (tgt := 104) hx hb dX5_adjust_96 (by decide) (fun c_7 => ?_) (fun c_7 => ?_)
          · exact absurd c_7 (by decide)
          · refine lv_bipush (v := 96) hx hb dX5_adjust_99 (by decide) ?_
            refine lv_goto (tgt := 105) hx hb dX5_adjust_101 (by decide) ?_
            refine lv_iadd hx hb dX5_adjust_105 ?_
            refine lv_sipush (v := 255) hx hb dX5_adjust_106 (by decide) ?_
            refine lv_iand hx hb dX5_adjust_109 ?_
            refine pu_R_a2 hx hb hK hP hD hS (by unfold vp_in; decide) dX5_adjust_110 (fun H locs hP hD hS => ?_)
            refine lv_aload_n hx hb dX5_adjust_111 rfl (lv_at hl 3 rfl) ?_
            refine lv_aload_n hx hb dX5_adjust_112 rfl (lv_at hl 3 rfl) ?_
            refine va_get (ci := 5) (v := .ref (o 23)) (C := RX5) (T := TX5) (N := 24) hx hb hts hi5 hown hK hP 0 rfl rfl 3 (by decide) (hts (.fieldLink RX5 16 "InvaderBoardModel" "reg" "[I") (by decide +kernel)) (fun _ h9 => h9) rfl dX5_adjust_113 ?_
            refine lv_bipush (v := 7) hx hb dX5_adjust_116 (by decide) ?_
            refine va_iald (f := upd (a 2) (7 : Int32).toNatClampNeg (((((a 2) (7 : Int32).toNatClampNeg) + (6 : Int32)) + (96 : Int32)) &&& (255 : Int32))) hx hb hK hP 3 0 rfl rfl (by unfold vp_in; decide) dX5_adjust_118 ?_
            refine KC.callv (ci := 5) (rest := []) (wt := wR cI o (rSigns (upd (upd f 14 (1 : Int32)) 16 (1 : Int32)) (ua a 2 (upd (a 2) (7 : Int32).toNatClampNeg (((((a 2) (7 : Int32).toNatClampNeg) + (6 : Int32)) + (96 : Int32)) &&& (255 : Int32)))) ((upd (a 2) (7 : Int32).toNatClampNeg (((((a 2) (7 : Int32).toNatClampNeg) + (6 : Int32)) + (96 : Int32)) &&& (255 : Int32))) (7 : Int32).toNatClampNeg)) (ua a 2 (upd (a 2) (7 : Int32).toNatClampNeg (((((a 2) (7 : Int32).toNatClampNeg) + (6 : Int32)) + (96 : Int32)) &&& (255 : Int32))))) (kX5_signs l D cI o (upd (upd f 14 (1 : Int32)) 16 (1 : Int32)) (ua a 2 (upd (a 2) (7 : Int32).toNatClampNeg (((((a 2) (7 : Int32).toNatClampNeg) + (6 : Int32)) + (96 : Int32)) &&& (255 : Int32)))) ((upd (a 2) (7 : Int32).toNatClampNeg (((((a 2) (7 : Int32).toNatClampNeg) + (6 : Int32)) + (96 : Int32)) &&& (255 : Int32))) (7 : Int32).toNatClampNeg)) (cwV 1 hts gX5_adjust_X5_signs rfl rfl rfl (by decide +kernel) ⟨Nat.le_of_ble_eq_true rfl, Nat.le_of_ble_eq_true rfl⟩) ⟨hx, hb, hml, hown, hts⟩ hK hP hD hS hA rfl rfl rfl [0, 1, 2, 3, 4, 5, 6] [] [0, 1, 2, 3, 4, 5, 6] (by decide) rfl (wr := []) rfl (by decide) (by decide) (by decide) rfl rfl hl.1 rfl (Nat.le_of_ble_eq_true rfl) dX5_adjust_119 ⟨Nat.zero_le _, Nat.zero_le _⟩ (fun H locs hP hD hS => ?_)
            have hF : rAdjust f a = (rSigns (upd (upd f 14 (1 : Int32)) 16 (1 : Int32)) (ua a 2 (upd (a 2) (7 : Int32).toNatClampNeg (((((a 2) (7 : Int32).toNatClampNeg) + (6 : Int32)) + (96 : Int32)) &&& (255 : Int32)))) ((upd (a 2) (7 : Int32).toNatClampNeg (((((a 2) (7 : Int32).toNatClampNeg) + (6 : Int32)) + (96 : Int32)) &&& (255 : Int32))) (7 : Int32).toNatClampNeg), ua a 2 (upd (a 2) (7 : Int32).toNatClampNeg (((((a 2) (7 : Int32).toNatClampNeg) + (6 : Int32)) + (96 : Int32)) &&& (255 : Int32)))) := by simp only [rAdjust, if_pos c_1, if_pos c_2, if_neg c_3]
            rw [hF]
            exact KC.retv hx hb hr hlocks hK hP hD hS dX5_adjust_122
    · refine lv_aload_n hx hb dX5_adjust_39 rfl (lv_at hl 2 rfl) ?_
      refine va_get (ci := 5) (v := .int (f 16)) (C := RX5) (T := TX5) (N := 24) hx hb hts hi5 hown hK hP 0 rfl rfl 10 (by decide) (hts (.fieldLink RX5 66 "InvaderBoardModel" "carry" "I") (by decide +kernel)) (fun _ h9 => h9) rfl dX5_adjust_40 ?_
      refine lv_iconst (v := 1) hx hb dX5_adjust_43 (by decide) ?_
      refine lv_icmp_ne (tgt := 51) hx hb dX5_adjust_44 (by decide) (fun c_8 => ?_) (fun c_8 => ?_)
      · refine lv_iconst (v := 0) hx hb dX5_adjust_51 (by decide) ?_
        refine lv_istore_n (lv' := [(3, .int _), (2, .int _), (1, .int _), (0, .ref _)]) hx hb dX5_adjust_52 rfl hl (by decide) rfl (fun ls hl => ?_)
        refine lv_aload_n hx hb dX5_adjust_53 rfl (lv_at hl 3 rfl) ?_
        refine lv_iload_n hx hb dX5_adjust_54 rfl (lv_at hl 2 rfl) ?_
        refine lv_bipush (v := 15) hx hb dX5_adjust_55 (by decide) ?_
        refine lv_iand hx hb dX5_adjust_57 ?_
        refine lv_iload_n hx hb dX5_adjust_58 rfl (lv_at hl 1 rfl) ?_
        refine lv_iadd hx hb dX5_adjust_59 ?_
        refine lv_bipush (v := 15) hx hb dX5_adjust_60 (by decide) ?_
        refine lv_icmp_le (tgt := 69) hx hb dX5_adjust_62 (by decide) (fun c_9 => ?_) (fun c_9 => ?_)
        · refine lv_iconst (v := 0) hx hb dX5_adjust_69 (by decide) ?_
          refine pu_R_f14 (v := (0 : Int32)) hx hb hts hi5 hown hK hP hD hS (hts (.fieldLink RX5 63 "InvaderBoardModel" "half" "I") (by decide +kernel)) dX5_adjust_70 (fun H locs hP hD hS => ?_)
          refine lv_aload_n hx hb dX5_adjust_73 rfl (lv_at hl 3 rfl) ?_
          refine lv_iload_n hx hb dX5_adjust_74 rfl (lv_at hl 0 rfl) ?_
          refine lv_if_eq (tgt := 82) hx hb dX5_adjust_75 (by decide) (fun c_10 => ?_) (fun c_10 => ?_)
          · refine lv_iconst (v := 0) hx hb dX5_adjust_82 (by decide) ?_
            refine pu_R_f16 (v := (0 : Int32)) hx hb hts hi5 hown hK hP hD hS (hts (.fieldLink RX5 66 "InvaderBoardModel" "carry" "I") (by decide +kernel)) dX5_adjust_83 (fun H locs hP hD hS => ?_)
            refine lv_aload_n hx hb dX5_adjust_86 rfl (lv_at hl 3 rfl) ?_
            refine va_get (ci := 5) (v := .ref (o 23)) (C := RX5) (T := TX5) (N := 24) hx hb hts hi5 hown hK hP 0 rfl rfl 3 (by decide) (hts (.fieldLink RX5 16 "InvaderBoardModel" "reg" "[I") (by decide +kernel)) (fun _ h9 => h9) rfl dX5_adjust_87 ?_
            refine lv_bipush (v := 7) hx hb dX5_adjust_90 (by decide) ?_
            refine lv_iload_n hx hb dX5_adjust_92 rfl (lv_at hl 2 rfl) ?_
            refine lv_iload_n hx hb dX5_adjust_93 rfl (lv_at hl 1 rfl) ?_
            refine lv_iadd hx hb dX5_adjust_94 ?_
            refine lv_iload_n hx hb dX5_adjust_95 rfl (lv_at hl 0 rfl) ?_
            refine lv_if_eq (tgt := 104) hx hb dX5_adjust_96 (by decide) (fun c_11 => ?_) (fun c_11 => ?_)
            · refine lv_iconst (v := 0) hx hb dX5_adjust_104 (by decide) ?_
              refine lv_iadd hx hb dX5_adjust_105 ?_
              refine lv_sipush (v := 255) hx hb dX5_adjust_106 (by decide) ?_
              refine lv_iand hx hb dX5_adjust_109 ?_
              refine pu_R_a2 hx hb hK hP hD hS (by unfold vp_in; decide) dX5_adjust_110 (fun H locs hP hD hS => ?_)
              refine lv_aload_n hx hb dX5_adjust_111 rfl (lv_at hl 3 rfl) ?_
              refine lv_aload_n hx hb dX5_adjust_112 rfl (lv_at hl 3 rfl) ?_
              refine va_get (ci := 5) (v := .ref (o 23)) (C := RX5) (T := TX5) (N := 24) hx hb hts hi5 hown hK hP 0 rfl rfl 3 (by decide) (hts (.fieldLink RX5 16 "InvaderBoardModel" "reg" "[I") (by decide +kernel)) (fun _ h9 => h9) rfl dX5_adjust_113 ?_
              refine lv_bipush (v := 7) hx hb dX5_adjust_116 (by decide) ?_
              refine va_iald (f := upd (a 2) (7 : Int32).toNatClampNeg (((((a 2) (7 : Int32).toNatClampNeg) + (6 : Int32)) + (0 : Int32)) &&& (255 : Int32))) hx hb hK hP 3 0 rfl rfl (by unfold vp_in; decide) dX5_adjust_118 ?_
              refine KC.callv (ci := 5) (rest := []) (wt := wR cI o (rSigns (upd (upd f 14 (0 : Int32)) 16 (0 : Int32)) (ua a 2 (upd (a 2) (7 : Int32).toNatClampNeg (((((a 2) (7 : Int32).toNatClampNeg) + (6 : Int32)) + (0 : Int32)) &&& (255 : Int32)))) ((upd (a 2) (7 : Int32).toNatClampNeg (((((a 2) (7 : Int32).toNatClampNeg) + (6 : Int32)) + (0 : Int32)) &&& (255 : Int32))) (7 : Int32).toNatClampNeg)) (ua a 2 (upd (a 2) (7 : Int32).toNatClampNeg (((((a 2) (7 : Int32).toNatClampNeg) + (6 : Int32)) + (0 : Int32)) &&& (255 : Int32))))) (kX5_signs l D cI o (upd (upd f 14 (0 : Int32)) 16 (0 : Int32)) (ua a 2 (upd (a 2) (7 : Int32).toNatClampNeg (((((a 2) (7 : Int32).toNatClampNeg) + (6 : Int32)) + (0 : Int32)) &&& (255 : Int32)))) ((upd (a 2) (7 : Int32).toNatClampNeg (((((a 2) (7 : Int32).toNatClampNeg) + (6 : Int32)) + (0 : Int32)) &&& (255 : Int32))) (7 : Int32).toNatClampNeg)) (cwV 1 hts gX5_adjust_X5_signs rfl rfl rfl (by decide +kernel) ⟨Nat.le_of_ble_eq_true rfl, Nat.le_of_ble_eq_true rfl⟩) ⟨hx, hb, hml, hown, hts⟩ hK hP hD hS hA rfl rfl rfl [0, 1, 2, 3, 4, 5, 6] [] [0, 1, 2, 3, 4, 5, 6] (by decide) rfl (wr := []) rfl (by decide) (by decide) (by decide) rfl rfl hl.1 rfl (Nat.le_of_ble_eq_true rfl) dX5_adjust_119 ⟨Nat.zero_le _, Nat.zero_le _⟩ (fun H locs hP hD hS => ?_)
              have hF : rAdjust f a = (rSigns (upd (upd f 14 (0 : Int32)) 16 (0 : Int32)) (ua a 2 (upd (a 2) (7 : Int32).toNatClampNeg (((((a 2) (7 : Int32).toNatClampNeg) + (6 : Int32)) + (0 : Int32)) &&& (255 : Int32)))) ((upd (a 2) (7 : Int32).toNatClampNeg (((((a 2) (7 : Int32).toNatClampNeg) + (6 : Int32)) + (0 : Int32)) &&& (255 : Int32))) (7 : Int32).toNatClampNeg), ua a 2 (upd (a 2) (7 : Int32).toNatClampNeg (((((a 2) (7 : Int32).toNatClampNeg) + (6 : Int32)) + (0 : Int32)) &&& (255 : Int32)))) := by simp only [rAdjust, if_pos c_1, if_neg c_2, if_neg c_8, if_pos c_9]
              rw [hF]
              exact KC.retv hx hb hr hlocks hK hP hD hS dX5_adjust_122
            · exact absurd c_11 (by decide)
          · exact absurd c_10 (by decide)
        · refine lv_iconst (v := 1) hx hb dX5_adjust_65 (by decide) ?_
          refine lv_goto (tgt := 70) hx hb dX5_adjust_66 (by decide) ?_
          refine pu_R_f14 (v := (1 : Int32)) hx hb hts hi5 hown hK hP hD hS (hts (.fieldLink RX5 63 "InvaderBoardModel" "half" "I") (by decide +kernel)) dX5_adjust_70 (fun H locs hP hD hS => ?_)
          refine lv_aload_n hx hb dX5_adjust_73 rfl (lv_at hl 3 rfl) ?_
          refine lv_iload_n hx hb dX5_adjust_74 rfl (lv_at hl 0 rfl) ?_
          refine lv_if_eq (tgt := 82) hx hb dX5_adjust_75 (by decide) (fun c_12 => ?_) (fun c_12 => ?_)
          · refine lv_iconst (v := 0) hx hb dX5_adjust_82 (by decide) ?_
            refine pu_R_f16 (v := (0 : Int32)) hx hb hts hi5 hown hK hP hD hS (hts (.fieldLink RX5 66 "InvaderBoardModel" "carry" "I") (by decide +kernel)) dX5_adjust_83 (fun H locs hP hD hS => ?_)
            refine lv_aload_n hx hb dX5_adjust_86 rfl (lv_at hl 3 rfl) ?_
            refine va_get (ci := 5) (v := .ref (o 23)) (C := RX5) (T := TX5) (N := 24) hx hb hts hi5 hown hK hP 0 rfl rfl 3 (by decide) (hts (.fieldLink RX5 16 "InvaderBoardModel" "reg" "[I") (by decide +kernel)) (fun _ h9 => h9) rfl dX5_adjust_87 ?_
            refine lv_bipush (v := 7) hx hb dX5_adjust_90 (by decide) ?_
            refine lv_iload_n hx hb dX5_adjust_92 rfl (lv_at hl 2 rfl) ?_
            refine lv_iload_n hx hb dX5_adjust_93 rfl (lv_at hl 1 rfl) ?_
            refine lv_iadd hx hb dX5_adjust_94 ?_
            refine lv_iload_n hx hb dX5_adjust_95 rfl (lv_at hl 0 rfl) ?_
            refine lv_if_eq (tgt := 104) hx hb dX5_adjust_96 (by decide) (fun c_13 => ?_) (fun c_13 => ?_)
            · refine lv_iconst (v := 0) hx hb dX5_adjust_104 (by decide) ?_
              refine lv_iadd hx hb dX5_adjust_105 ?_
              refine lv_sipush (v := 255) hx hb dX5_adjust_106 (by decide) ?_
              refine lv_iand hx hb dX5_adjust_109 ?_
              refine pu_R_a2 hx hb hK hP hD hS (by unfold vp_in; decide) dX5_adjust_110 (fun H locs hP hD hS => ?_)
              refine lv_aload_n hx hb dX5_adjust_111 rfl (lv_at hl 3 rfl) ?_
              refine lv_aload_n hx hb dX5_adjust_112 rfl (lv_at hl 3 rfl) ?_
              refine va_get (ci := 5) (v := .ref (o 23)) (C := RX5) (T := TX5) (N := 24) hx hb hts hi5 hown hK hP 0 rfl rfl 3 (by decide) (hts (.fieldLink RX5 16 "InvaderBoardModel" "reg" "[I") (by decide +kernel)) (fun _ h9 => h9) rfl dX5_adjust_113 ?_
              refine lv_bipush (v := 7) hx hb dX5_adjust_116 (by decide) ?_
              refine va_iald (f := upd (a 2) (7 : Int32).toNatClampNeg (((((a 2) (7 : Int32).toNatClampNeg) + (6 : Int32)) + (0 : Int32)) &&& (255 : Int32))) hx hb hK hP 3 0 rfl rfl (by unfold vp_in; decide) dX5_adjust_118 ?_
              refine KC.callv (ci := 5) (rest := []) (wt := wR cI o (rSigns (upd (upd f 14 (1 : Int32)) 16 (0 : Int32)) (ua a 2 (upd (a 2) (7 : Int32).toNatClampNeg (((((a 2) (7 : Int32).toNatClampNeg) + (6 : Int32)) + (0 : Int32)) &&& (255 : Int32)))) ((upd (a 2) (7 : Int32).toNatClampNeg (((((a 2) (7 : Int32).toNatClampNeg) + (6 : Int32)) + (0 : Int32)) &&& (255 : Int32))) (7 : Int32).toNatClampNeg)) (ua a 2 (upd (a 2) (7 : Int32).toNatClampNeg (((((a 2) (7 : Int32).toNatClampNeg) + (6 : Int32)) + (0 : Int32)) &&& (255 : Int32))))) (kX5_signs l D cI o (upd (upd f 14 (1 : Int32)) 16 (0 : Int32)) (ua a 2 (upd (a 2) (7 : Int32).toNatClampNeg (((((a 2) (7 : Int32).toNatClampNeg) + (6 : Int32)) + (0 : Int32)) &&& (255 : Int32)))) ((upd (a 2) (7 : Int32).toNatClampNeg (((((a 2) (7 : Int32).toNatClampNeg) + (6 : Int32)) + (0 : Int32)) &&& (255 : Int32))) (7 : Int32).toNatClampNeg)) (cwV 1 hts gX5_adjust_X5_signs rfl rfl rfl (by decide +kernel) ⟨Nat.le_of_ble_eq_true rfl, Nat.le_of_ble_eq_true rfl⟩) ⟨hx, hb, hml, hown, hts⟩ hK hP hD hS hA rfl rfl rfl [0, 1, 2, 3, 4, 5, 6] [] [0, 1, 2, 3, 4, 5, 6] (by decide) rfl (wr := []) rfl (by decide) (by decide) (by decide) rfl rfl hl.1 rfl (Nat.le_of_ble_eq_true rfl) dX5_adjust_119 ⟨Nat.zero_le _, Nat.zero_le _⟩ (fun H locs hP hD hS => ?_)
              have hF : rAdjust f a = (rSigns (upd (upd f 14 (1 : Int32)) 16 (0 : Int32)) (ua a 2 (upd (a 2) (7 : Int32).toNatClampNeg (((((a 2) (7 : Int32).toNatClampNeg) + (6 : Int32)) + (0 : Int32)) &&& (255 : Int32)))) ((upd (a 2) (7 : Int32).toNatClampNeg (((((a 2) (7 : Int32).toNatClampNeg) + (6 : Int32)) + (0 : Int32)) &&& (255 : Int32))) (7 : Int32).toNatClampNeg), ua a 2 (upd (a 2) (7 : Int32).toNatClampNeg (((((a 2) (7 : Int32).toNatClampNeg) + (6 : Int32)) + (0 : Int32)) &&& (255 : Int32)))) := by simp only [rAdjust, if_pos c_1, if_neg c_2, if_neg c_8, if_neg c_9]
              rw [hF]
              exact KC.retv hx hb hr hlocks hK hP hD hS dX5_adjust_122
            · exact absurd c_13 (by decide)
          · exact absurd c_12 (by decide)
      · refine lv_iconst (v := 1) hx hb dX5_adjust_47 (by decide) ?_
        refine lv_goto (tgt := 52) hx hb dX5_adjust_48 (by decide) ?_
        refine lv_istore_n (lv' := [(3, .int _), (2, .int _), (1, .int _), (0, .ref _)]) hx hb dX5_adjust_52 rfl hl (by decide) rfl (fun ls hl => ?_)
        refine lv_aload_n hx hb dX5_adjust_53 rfl (lv_at hl 3 rfl) ?_
        refine lv_iload_n hx hb dX5_adjust_54 rfl (lv_at hl 2 rfl) ?_
        refine lv_bipush (v := 15) hx hb dX5_adjust_55 (by decide) ?_
        refine lv_iand hx hb dX5_adjust_57 ?_
        refine lv_iload_n hx hb dX5_adjust_58 rfl (lv_at hl 1 rfl) ?_
        refine lv_iadd hx hb dX5_adjust_59 ?_
        refine lv_bipush (v := 15) hx hb dX5_adjust_60 (by decide) ?_
        refine lv_icmp_le (tgt := 69) hx hb dX5_adjust_62 (by decide) (fun c_14 => ?_) (fun c_14 => ?_)
        · refine lv_iconst (v := 0) hx hb dX5_adjust_69 (by decide) ?_
          refine pu_R_f14 (v := (0 : Int32)) hx hb hts hi5 hown hK hP hD hS (hts (.fieldLink RX5 63 "InvaderBoardModel" "half" "I") (by decide +kernel)) dX5_adjust_70 (fun H locs hP hD hS => ?_)
          refine lv_aload_n hx hb dX5_adjust_73 rfl (lv_at hl 3 rfl) ?_
          refine lv_iload_n hx hb dX5_adjust_74 rfl (lv_at hl 0 rfl) ?_
          refine lv_if_eq (tgt := 82) hx hb dX5_adjust_75 (by decide) (fun c_15 => ?_) (fun c_15 => ?_)
          · exact absurd c_15 (by decide)
          · refine lv_iconst (v := 1) hx hb dX5_adjust_78 (by decide) ?_
            refine lv_goto (tgt := 83) hx hb dX5_adjust_79 (by decide) ?_
            refine pu_R_f16 (v := (1 : Int32)) hx hb hts hi5 hown hK hP hD hS (hts (.fieldLink RX5 66 "InvaderBoardModel" "carry" "I") (by decide +kernel)) dX5_adjust_83 (fun H locs hP hD hS => ?_)
            refine lv_aload_n hx hb dX5_adjust_86 rfl (lv_at hl 3 rfl) ?_
            refine va_get (ci := 5) (v := .ref (o 23)) (C := RX5) (T := TX5) (N := 24) hx hb hts hi5 hown hK hP 0 rfl rfl 3 (by decide) (hts (.fieldLink RX5 16 "InvaderBoardModel" "reg" "[I") (by decide +kernel)) (fun _ h9 => h9) rfl dX5_adjust_87 ?_
            refine lv_bipush (v := 7) hx hb dX5_adjust_90 (by decide) ?_
            refine lv_iload_n hx hb dX5_adjust_92 rfl (lv_at hl 2 rfl) ?_
            refine lv_iload_n hx hb dX5_adjust_93 rfl (lv_at hl 1 rfl) ?_
            refine lv_iadd hx hb dX5_adjust_94 ?_
            refine lv_iload_n hx hb dX5_adjust_95 rfl (lv_at hl 0 rfl) ?_
            refine lv_if_eq (tgt := 104) hx hb dX5_adjust_96 (by decide) (fun c_16 => ?_) (fun c_16 => ?_)
            · exact absurd c_16 (by decide)
            · refine lv_bipush (v := 96) hx hb dX5_adjust_99 (by decide) ?_
              refine lv_goto (tgt := 105) hx hb dX5_adjust_101 (by decide) ?_
              refine lv_iadd hx hb dX5_adjust_105 ?_
              refine lv_sipush (v := 255) hx hb dX5_adjust_106 (by decide) ?_
              refine lv_iand hx hb dX5_adjust_109 ?_
              refine pu_R_a2 hx hb hK hP hD hS (by unfold vp_in; decide) dX5_adjust_110 (fun H locs hP hD hS => ?_)
              refine lv_aload_n hx hb dX5_adjust_111 rfl (lv_at hl 3 rfl) ?_
              refine lv_aload_n hx hb dX5_adjust_112 rfl (lv_at hl 3 rfl) ?_
              refine va_get (ci := 5) (v := .ref (o 23)) (C := RX5) (T := TX5) (N := 24) hx hb hts hi5 hown hK hP 0 rfl rfl 3 (by decide) (hts (.fieldLink RX5 16 "InvaderBoardModel" "reg" "[I") (by decide +kernel)) (fun _ h9 => h9) rfl dX5_adjust_113 ?_
              refine lv_bipush (v := 7) hx hb dX5_adjust_116 (by decide) ?_
              refine va_iald (f := upd (a 2) (7 : Int32).toNatClampNeg (((((a 2) (7 : Int32).toNatClampNeg) + (6 : Int32)) + (96 : Int32)) &&& (255 : Int32))) hx hb hK hP 3 0 rfl rfl (by unfold vp_in; decide) dX5_adjust_118 ?_
              refine KC.callv (ci := 5) (rest := []) (wt := wR cI o (rSigns (upd (upd f 14 (0 : Int32)) 16 (1 : Int32)) (ua a 2 (upd (a 2) (7 : Int32).toNatClampNeg (((((a 2) (7 : Int32).toNatClampNeg) + (6 : Int32)) + (96 : Int32)) &&& (255 : Int32)))) ((upd (a 2) (7 : Int32).toNatClampNeg (((((a 2) (7 : Int32).toNatClampNeg) + (6 : Int32)) + (96 : Int32)) &&& (255 : Int32))) (7 : Int32).toNatClampNeg)) (ua a 2 (upd (a 2) (7 : Int32).toNatClampNeg (((((a 2) (7 : Int32).toNatClampNeg) + (6 : Int32)) + (96 : Int32)) &&& (255 : Int32))))) (kX5_signs l D cI o (upd (upd f 14 (0 : Int32)) 16 (1 : Int32)) (ua a 2 (upd (a 2) (7 : Int32).toNatClampNeg (((((a 2) (7 : Int32).toNatClampNeg) + (6 : Int32)) + (96 : Int32)) &&& (255 : Int32)))) ((upd (a 2) (7 : Int32).toNatClampNeg (((((a 2) (7 : Int32).toNatClampNeg) + (6 : Int32)) + (96 : Int32)) &&& (255 : Int32))) (7 : Int32).toNatClampNeg)) (cwV 1 hts gX5_adjust_X5_signs rfl rfl rfl (by decide +kernel) ⟨Nat.le_of_ble_eq_true rfl, Nat.le_of_ble_eq_true rfl⟩) ⟨hx, hb, hml, hown, hts⟩ hK hP hD hS hA rfl rfl rfl [0, 1, 2, 3, 4, 5, 6] [] [0, 1, 2, 3, 4, 5, 6] (by decide) rfl (wr := []) rfl (by decide) (by decide) (by decide) rfl rfl hl.1 rfl (Nat.le_of_ble_eq_true rfl) dX5_adjust_119 ⟨Nat.zero_le _, Nat.zero_le _⟩ (fun H locs hP hD hS => ?_)
              have hF : rAdjust f a = (rSigns (upd (upd f 14 (0 : Int32)) 16 (1 : Int32)) (ua a 2 (upd (a 2) (7 : Int32).toNatClampNeg (((((a 2) (7 : Int32).toNatClampNeg) + (6 : Int32)) + (96 : Int32)) &&& (255 : Int32)))) ((upd (a 2) (7 : Int32).toNatClampNeg (((((a 2) (7 : Int32).toNatClampNeg) + (6 : Int32)) + (96 : Int32)) &&& (255 : Int32))) (7 : Int32).toNatClampNeg), ua a 2 (upd (a 2) (7 : Int32).toNatClampNeg (((((a 2) (7 : Int32).toNatClampNeg) + (6 : Int32)) + (96 : Int32)) &&& (255 : Int32)))) := by simp only [rAdjust, if_pos c_1, if_neg c_2, if_pos c_8, if_pos c_14]
              rw [hF]
              exact KC.retv hx hb hr hlocks hK hP hD hS dX5_adjust_122
        · refine lv_iconst (v := 1) hx hb dX5_adjust_65 (by decide) ?_
          refine lv_goto (tgt := 70) hx hb dX5_adjust_66 (by decide) ?_
          refine pu_R_f14 (v := (1 : Int32)) hx hb hts hi5 hown hK hP hD hS (hts (.fieldLink RX5 63 "InvaderBoardModel" "half" "I") (by decide +kernel)) dX5_adjust_70 (fun H locs hP hD hS => ?_)
          refine lv_aload_n hx hb dX5_adjust_73 rfl (lv_at hl 3 rfl) ?_
          refine lv_iload_n hx hb dX5_adjust_74 rfl (lv_at hl 0 rfl) ?_
          refine lv_if_eq (tgt := 82) hx hb dX5_adjust_75 (by decide) (fun c_17 => ?_) (fun c_17 => ?_)
          · exact absurd c_17 (by decide)
          · refine lv_iconst (v := 1) hx hb dX5_adjust_78 (by decide) ?_
            refine lv_goto (tgt := 83) hx hb dX5_adjust_79 (by decide) ?_
            refine pu_R_f16 (v := (1 : Int32)) hx hb hts hi5 hown hK hP hD hS (hts (.fieldLink RX5 66 "InvaderBoardModel" "carry" "I") (by decide +kernel)) dX5_adjust_83 (fun H locs hP hD hS => ?_)
            refine lv_aload_n hx hb dX5_adjust_86 rfl (lv_at hl 3 rfl) ?_
            refine va_get (ci := 5) (v := .ref (o 23)) (C := RX5) (T := TX5) (N := 24) hx hb hts hi5 hown hK hP 0 rfl rfl 3 (by decide) (hts (.fieldLink RX5 16 "InvaderBoardModel" "reg" "[I") (by decide +kernel)) (fun _ h9 => h9) rfl dX5_adjust_87 ?_
            refine lv_bipush (v := 7) hx hb dX5_adjust_90 (by decide) ?_
            refine lv_iload_n hx hb dX5_adjust_92 rfl (lv_at hl 2 rfl) ?_
            refine lv_iload_n hx hb dX5_adjust_93 rfl (lv_at hl 1 rfl) ?_
            refine lv_iadd hx hb dX5_adjust_94 ?_
            refine lv_iload_n hx hb dX5_adjust_95 rfl (lv_at hl 0 rfl) ?_
            refine lv_if_eq (tgt := 104) hx hb dX5_adjust_96 (by decide) (fun c_18 => ?_) (fun c_18 => ?_)
            · exact absurd c_18 (by decide)
            · refine lv_bipush (v := 96) hx hb dX5_adjust_99 (by decide) ?_
              refine lv_goto (tgt := 105) hx hb dX5_adjust_101 (by decide) ?_
              refine lv_iadd hx hb dX5_adjust_105 ?_
              refine lv_sipush (v := 255) hx hb dX5_adjust_106 (by decide) ?_
              refine lv_iand hx hb dX5_adjust_109 ?_
              refine pu_R_a2 hx hb hK hP hD hS (by unfold vp_in; decide) dX5_adjust_110 (fun H locs hP hD hS => ?_)
              refine lv_aload_n hx hb dX5_adjust_111 rfl (lv_at hl 3 rfl) ?_
              refine lv_aload_n hx hb dX5_adjust_112 rfl (lv_at hl 3 rfl) ?_
              refine va_get (ci := 5) (v := .ref (o 23)) (C := RX5) (T := TX5) (N := 24) hx hb hts hi5 hown hK hP 0 rfl rfl 3 (by decide) (hts (.fieldLink RX5 16 "InvaderBoardModel" "reg" "[I") (by decide +kernel)) (fun _ h9 => h9) rfl dX5_adjust_113 ?_
              refine lv_bipush (v := 7) hx hb dX5_adjust_116 (by decide) ?_
              refine va_iald (f := upd (a 2) (7 : Int32).toNatClampNeg (((((a 2) (7 : Int32).toNatClampNeg) + (6 : Int32)) + (96 : Int32)) &&& (255 : Int32))) hx hb hK hP 3 0 rfl rfl (by unfold vp_in; decide) dX5_adjust_118 ?_
              refine KC.callv (ci := 5) (rest := []) (wt := wR cI o (rSigns (upd (upd f 14 (1 : Int32)) 16 (1 : Int32)) (ua a 2 (upd (a 2) (7 : Int32).toNatClampNeg (((((a 2) (7 : Int32).toNatClampNeg) + (6 : Int32)) + (96 : Int32)) &&& (255 : Int32)))) ((upd (a 2) (7 : Int32).toNatClampNeg (((((a 2) (7 : Int32).toNatClampNeg) + (6 : Int32)) + (96 : Int32)) &&& (255 : Int32))) (7 : Int32).toNatClampNeg)) (ua a 2 (upd (a 2) (7 : Int32).toNatClampNeg (((((a 2) (7 : Int32).toNatClampNeg) + (6 : Int32)) + (96 : Int32)) &&& (255 : Int32))))) (kX5_signs l D cI o (upd (upd f 14 (1 : Int32)) 16 (1 : Int32)) (ua a 2 (upd (a 2) (7 : Int32).toNatClampNeg (((((a 2) (7 : Int32).toNatClampNeg) + (6 : Int32)) + (96 : Int32)) &&& (255 : Int32)))) ((upd (a 2) (7 : Int32).toNatClampNeg (((((a 2) (7 : Int32).toNatClampNeg) + (6 : Int32)) + (96 : Int32)) &&& (255 : Int32))) (7 : Int32).toNatClampNeg)) (cwV 1 hts gX5_adjust_X5_signs rfl rfl rfl (by decide +kernel) ⟨Nat.le_of_ble_eq_true rfl, Nat.le_of_ble_eq_true rfl⟩) ⟨hx, hb, hml, hown, hts⟩ hK hP hD hS hA rfl rfl rfl [0, 1, 2, 3, 4, 5, 6] [] [0, 1, 2, 3, 4, 5, 6] (by decide) rfl (wr := []) rfl (by decide) (by decide) (by decide) rfl rfl hl.1 rfl (Nat.le_of_ble_eq_true rfl) dX5_adjust_119 ⟨Nat.zero_le _, Nat.zero_le _⟩ (fun H locs hP hD hS => ?_)
              have hF : rAdjust f a = (rSigns (upd (upd f 14 (1 : Int32)) 16 (1 : Int32)) (ua a 2 (upd (a 2) (7 : Int32).toNatClampNeg (((((a 2) (7 : Int32).toNatClampNeg) + (6 : Int32)) + (96 : Int32)) &&& (255 : Int32)))) ((upd (a 2) (7 : Int32).toNatClampNeg (((((a 2) (7 : Int32).toNatClampNeg) + (6 : Int32)) + (96 : Int32)) &&& (255 : Int32))) (7 : Int32).toNatClampNeg), ua a 2 (upd (a 2) (7 : Int32).toNatClampNeg (((((a 2) (7 : Int32).toNatClampNeg) + (6 : Int32)) + (96 : Int32)) &&& (255 : Int32)))) := by simp only [rAdjust, if_pos c_1, if_neg c_2, if_pos c_8, if_neg c_14]
              rw [hF]
              exact KC.retv hx hb hr hlocks hK hP hD hS dX5_adjust_122
  · refine lv_aload_n hx hb dX5_adjust_17 rfl (lv_at hl 1 rfl) ?_
    refine va_get (ci := 5) (v := .int (f 14)) (C := RX5) (T := TX5) (N := 24) hx hb hts hi5 hown hK hP 0 rfl rfl 8 (by decide) (hts (.fieldLink RX5 63 "InvaderBoardModel" "half" "I") (by decide +kernel)) (fun _ h9 => h9) rfl dX5_adjust_18 ?_
    refine lv_iconst (v := 1) hx hb dX5_adjust_21 (by decide) ?_
    refine lv_icmp_ne (tgt := 30) hx hb dX5_adjust_22 (by decide) (fun c_19 => ?_) (fun c_19 => ?_)
    · refine lv_iconst (v := 0) hx hb dX5_adjust_30 (by decide) ?_
      refine lv_istore_n (lv' := [(2, .int _), (1, .int _), (0, .ref _)]) hx hb dX5_adjust_31 rfl hl (by decide) rfl (fun ls hl => ?_)
      refine lv_iload_n hx hb dX5_adjust_32 rfl (lv_at hl 1 rfl) ?_
      refine lv_sipush (v := 153) hx hb dX5_adjust_33 (by decide) ?_
      refine lv_icmp_gt (tgt := 47) hx hb dX5_adjust_36 (by decide) (fun c_20 => ?_) (fun c_20 => ?_)
      · refine lv_iconst (v := 1) hx hb dX5_adjust_47 (by decide) ?_
        refine lv_goto (tgt := 52) hx hb dX5_adjust_48 (by decide) ?_
        refine lv_istore_n (lv' := [(3, .int _), (2, .int _), (1, .int _), (0, .ref _)]) hx hb dX5_adjust_52 rfl hl (by decide) rfl (fun ls hl => ?_)
        refine lv_aload_n hx hb dX5_adjust_53 rfl (lv_at hl 3 rfl) ?_
        refine lv_iload_n hx hb dX5_adjust_54 rfl (lv_at hl 2 rfl) ?_
        refine lv_bipush (v := 15) hx hb dX5_adjust_55 (by decide) ?_
        refine lv_iand hx hb dX5_adjust_57 ?_
        refine lv_iload_n hx hb dX5_adjust_58 rfl (lv_at hl 1 rfl) ?_
        refine lv_iadd hx hb dX5_adjust_59 ?_
        refine lv_bipush (v := 15) hx hb dX5_adjust_60 (by decide) ?_
        refine lv_icmp_le (tgt := 69) hx hb dX5_adjust_62 (by decide) (fun c_21 => ?_) (fun c_21 => ?_)
        · refine lv_iconst (v := 0) hx hb dX5_adjust_69 (by decide) ?_
          refine pu_R_f14 (v := (0 : Int32)) hx hb hts hi5 hown hK hP hD hS (hts (.fieldLink RX5 63 "InvaderBoardModel" "half" "I") (by decide +kernel)) dX5_adjust_70 (fun H locs hP hD hS => ?_)
          refine lv_aload_n hx hb dX5_adjust_73 rfl (lv_at hl 3 rfl) ?_
          refine lv_iload_n hx hb dX5_adjust_74 rfl (lv_at hl 0 rfl) ?_
          refine lv_if_eq (tgt := 82) hx hb dX5_adjust_75 (by decide) (fun c_22 => ?_) (fun c_22 => ?_)
          · exact absurd c_22 (by decide)
          · refine lv_iconst (v := 1) hx hb dX5_adjust_78 (by decide) ?_
            refine lv_goto (tgt := 83) hx hb dX5_adjust_79 (by decide) ?_
            refine pu_R_f16 (v := (1 : Int32)) hx hb hts hi5 hown hK hP hD hS (hts (.fieldLink RX5 66 "InvaderBoardModel" "carry" "I") (by decide +kernel)) dX5_adjust_83 (fun H locs hP hD hS => ?_)
            refine lv_aload_n hx hb dX5_adjust_86 rfl (lv_at hl 3 rfl) ?_
            refine va_get (ci := 5) (v := .ref (o 23)) (C := RX5) (T := TX5) (N := 24) hx hb hts hi5 hown hK hP 0 rfl rfl 3 (by decide) (hts (.fieldLink RX5 16 "InvaderBoardModel" "reg" "[I") (by decide +kernel)) (fun _ h9 => h9) rfl dX5_adjust_87 ?_
            refine lv_bipush (v := 7) hx hb dX5_adjust_90 (by decide) ?_
            refine lv_iload_n hx hb dX5_adjust_92 rfl (lv_at hl 2 rfl) ?_
            refine lv_iload_n hx hb dX5_adjust_93 rfl (lv_at hl 1 rfl) ?_
            refine lv_iadd hx hb dX5_adjust_94 ?_
            refine lv_iload_n hx hb dX5_adjust_95 rfl (lv_at hl 0 rfl) ?_
            refine lv_if_eq (tgt := 104) hx hb dX5_adjust_96 (by decide) (fun c_23 => ?_) (fun c_23 => ?_)
            · exact absurd c_23 (by decide)
            · refine lv_bipush (v := 96) hx hb dX5_adjust_99 (by decide) ?_
              refine lv_goto (tgt := 105) hx hb dX5_adjust_101 (by decide) ?_
              refine lv_iadd hx hb dX5_adjust_105 ?_
              refine lv_sipush (v := 255) hx hb dX5_adjust_106 (by decide) ?_
              refine lv_iand hx hb dX5_adjust_109 ?_
              refine pu_R_a2 hx hb hK hP hD hS (by unfold vp_in; decide) dX5_adjust_110 (fun H locs hP hD hS => ?_)
              refine lv_aload_n hx hb dX5_adjust_111 rfl (lv_at hl 3 rfl) ?_
              refine lv_aload_n hx hb dX5_adjust_112 rfl (lv_at hl 3 rfl) ?_
              refine va_get (ci := 5) (v := .ref (o 23)) (C := RX5) (T := TX5) (N := 24) hx hb hts hi5 hown hK hP 0 rfl rfl 3 (by decide) (hts (.fieldLink RX5 16 "InvaderBoardModel" "reg" "[I") (by decide +kernel)) (fun _ h9 => h9) rfl dX5_adjust_113 ?_
              refine lv_bipush (v := 7) hx hb dX5_adjust_116 (by decide) ?_
              refine va_iald (f := upd (a 2) (7 : Int32).toNatClampNeg (((((a 2) (7 : Int32).toNatClampNeg) + (0 : Int32)) + (96 : Int32)) &&& (255 : Int32))) hx hb hK hP 3 0 rfl rfl (by unfold vp_in; decide) dX5_adjust_118 ?_
              refine KC.callv (ci := 5) (rest := []) (wt := wR cI o (rSigns (upd (upd f 14 (0 : Int32)) 16 (1 : Int32)) (ua a 2 (upd (a 2) (7 : Int32).toNatClampNeg (((((a 2) (7 : Int32).toNatClampNeg) + (0 : Int32)) + (96 : Int32)) &&& (255 : Int32)))) ((upd (a 2) (7 : Int32).toNatClampNeg (((((a 2) (7 : Int32).toNatClampNeg) + (0 : Int32)) + (96 : Int32)) &&& (255 : Int32))) (7 : Int32).toNatClampNeg)) (ua a 2 (upd (a 2) (7 : Int32).toNatClampNeg (((((a 2) (7 : Int32).toNatClampNeg) + (0 : Int32)) + (96 : Int32)) &&& (255 : Int32))))) (kX5_signs l D cI o (upd (upd f 14 (0 : Int32)) 16 (1 : Int32)) (ua a 2 (upd (a 2) (7 : Int32).toNatClampNeg (((((a 2) (7 : Int32).toNatClampNeg) + (0 : Int32)) + (96 : Int32)) &&& (255 : Int32)))) ((upd (a 2) (7 : Int32).toNatClampNeg (((((a 2) (7 : Int32).toNatClampNeg) + (0 : Int32)) + (96 : Int32)) &&& (255 : Int32))) (7 : Int32).toNatClampNeg)) (cwV 1 hts gX5_adjust_X5_signs rfl rfl rfl (by decide +kernel) ⟨Nat.le_of_ble_eq_true rfl, Nat.le_of_ble_eq_true rfl⟩) ⟨hx, hb, hml, hown, hts⟩ hK hP hD hS hA rfl rfl rfl [0, 1, 2, 3, 4, 5, 6] [] [0, 1, 2, 3, 4, 5, 6] (by decide) rfl (wr := []) rfl (by decide) (by decide) (by decide) rfl rfl hl.1 rfl (Nat.le_of_ble_eq_true rfl) dX5_adjust_119 ⟨Nat.zero_le _, Nat.zero_le _⟩ (fun H locs hP hD hS => ?_)
              have hF : rAdjust f a = (rSigns (upd (upd f 14 (0 : Int32)) 16 (1 : Int32)) (ua a 2 (upd (a 2) (7 : Int32).toNatClampNeg (((((a 2) (7 : Int32).toNatClampNeg) + (0 : Int32)) + (96 : Int32)) &&& (255 : Int32)))) ((upd (a 2) (7 : Int32).toNatClampNeg (((((a 2) (7 : Int32).toNatClampNeg) + (0 : Int32)) + (96 : Int32)) &&& (255 : Int32))) (7 : Int32).toNatClampNeg), ua a 2 (upd (a 2) (7 : Int32).toNatClampNeg (((((a 2) (7 : Int32).toNatClampNeg) + (0 : Int32)) + (96 : Int32)) &&& (255 : Int32)))) := by simp only [rAdjust, if_neg c_1, if_neg c_19, if_pos c_20, if_pos c_21]
              rw [hF]
              exact KC.retv hx hb hr hlocks hK hP hD hS dX5_adjust_122
        · refine lv_iconst (v := 1) hx hb dX5_adjust_65 (by decide) ?_
          refine lv_goto (tgt := 70) hx hb dX5_adjust_66 (by decide) ?_
          refine pu_R_f14 (v := (1 : Int32)) hx hb hts hi5 hown hK hP hD hS (hts (.fieldLink RX5 63 "InvaderBoardModel" "half" "I") (by decide +kernel)) dX5_adjust_70 (fun H locs hP hD hS => ?_)
          refine lv_aload_n hx hb dX5_adjust_73 rfl (lv_at hl 3 rfl) ?_
          refine lv_iload_n hx hb dX5_adjust_74 rfl (lv_at hl 0 rfl) ?_
          refine lv_if_eq (tgt := 82) hx hb dX5_adjust_75 (by decide) (fun c_24 => ?_) (fun c_24 => ?_)
          · exact absurd c_24 (by decide)
          · refine lv_iconst (v := 1) hx hb dX5_adjust_78 (by decide) ?_
            refine lv_goto (tgt := 83) hx hb dX5_adjust_79 (by decide) ?_
            refine pu_R_f16 (v := (1 : Int32)) hx hb hts hi5 hown hK hP hD hS (hts (.fieldLink RX5 66 "InvaderBoardModel" "carry" "I") (by decide +kernel)) dX5_adjust_83 (fun H locs hP hD hS => ?_)
            refine lv_aload_n hx hb dX5_adjust_86 rfl (lv_at hl 3 rfl) ?_
            refine va_get (ci := 5) (v := .ref (o 23)) (C := RX5) (T := TX5) (N := 24) hx hb hts hi5 hown hK hP 0 rfl rfl 3 (by decide) (hts (.fieldLink RX5 16 "InvaderBoardModel" "reg" "[I") (by decide +kernel)) (fun _ h9 => h9) rfl dX5_adjust_87 ?_
            refine lv_bipush (v := 7) hx hb dX5_adjust_90 (by decide) ?_
            refine lv_iload_n hx hb dX5_adjust_92 rfl (lv_at hl 2 rfl) ?_
            refine lv_iload_n hx hb dX5_adjust_93 rfl (lv_at hl 1 rfl) ?_
            refine lv_iadd hx hb dX5_adjust_94 ?_
            refine lv_iload_n hx hb dX5_adjust_95 rfl (lv_at hl 0 rfl) ?_
            refine lv_if_eq (tgt := 104) hx hb dX5_adjust_96 (by decide) (fun c_25 => ?_) (fun c_25 => ?_)
            · exact absurd c_25 (by decide)
            · refine lv_bipush (v := 96) hx hb dX5_adjust_99 (by decide) ?_
              refine lv_goto (tgt := 105) hx hb dX5_adjust_101 (by decide) ?_
              refine lv_iadd hx hb dX5_adjust_105 ?_
              refine lv_sipush (v := 255) hx hb dX5_adjust_106 (by decide) ?_
              refine lv_iand hx hb dX5_adjust_109 ?_
              refine pu_R_a2 hx hb hK hP hD hS (by unfold vp_in; decide) dX5_adjust_110 (fun H locs hP hD hS => ?_)
              refine lv_aload_n hx hb dX5_adjust_111 rfl (lv_at hl 3 rfl) ?_
              refine lv_aload_n hx hb dX5_adjust_112 rfl (lv_at hl 3 rfl) ?_
              refine va_get (ci := 5) (v := .ref (o 23)) (C := RX5) (T := TX5) (N := 24) hx hb hts hi5 hown hK hP 0 rfl rfl 3 (by decide) (hts (.fieldLink RX5 16 "InvaderBoardModel" "reg" "[I") (by decide +kernel)) (fun _ h9 => h9) rfl dX5_adjust_113 ?_
              refine lv_bipush (v := 7) hx hb dX5_adjust_116 (by decide) ?_
              refine va_iald (f := upd (a 2) (7 : Int32).toNatClampNeg (((((a 2) (7 : Int32).toNatClampNeg) + (0 : Int32)) + (96 : Int32)) &&& (255 : Int32))) hx hb hK hP 3 0 rfl rfl (by unfold vp_in; decide) dX5_adjust_118 ?_
              refine KC.callv (ci := 5) (rest := []) (wt := wR cI o (rSigns (upd (upd f 14 (1 : Int32)) 16 (1 : Int32)) (ua a 2 (upd (a 2) (7 : Int32).toNatClampNeg (((((a 2) (7 : Int32).toNatClampNeg) + (0 : Int32)) + (96 : Int32)) &&& (255 : Int32)))) ((upd (a 2) (7 : Int32).toNatClampNeg (((((a 2) (7 : Int32).toNatClampNeg) + (0 : Int32)) + (96 : Int32)) &&& (255 : Int32))) (7 : Int32).toNatClampNeg)) (ua a 2 (upd (a 2) (7 : Int32).toNatClampNeg (((((a 2) (7 : Int32).toNatClampNeg) + (0 : Int32)) + (96 : Int32)) &&& (255 : Int32))))) (kX5_signs l D cI o (upd (upd f 14 (1 : Int32)) 16 (1 : Int32)) (ua a 2 (upd (a 2) (7 : Int32).toNatClampNeg (((((a 2) (7 : Int32).toNatClampNeg) + (0 : Int32)) + (96 : Int32)) &&& (255 : Int32)))) ((upd (a 2) (7 : Int32).toNatClampNeg (((((a 2) (7 : Int32).toNatClampNeg) + (0 : Int32)) + (96 : Int32)) &&& (255 : Int32))) (7 : Int32).toNatClampNeg)) (cwV 1 hts gX5_adjust_X5_signs rfl rfl rfl (by decide +kernel) ⟨Nat.le_of_ble_eq_true rfl, Nat.le_of_ble_eq_true rfl⟩) ⟨hx, hb, hml, hown, hts⟩ hK hP hD hS hA rfl rfl rfl [0, 1, 2, 3, 4, 5, 6] [] [0, 1, 2, 3, 4, 5, 6] (by decide) rfl (wr := []) rfl (by decide) (by decide) (by decide) rfl rfl hl.1 rfl (Nat.le_of_ble_eq_true rfl) dX5_adjust_119 ⟨Nat.zero_le _, Nat.zero_le _⟩ (fun H locs hP hD hS => ?_)
              have hF : rAdjust f a = (rSigns (upd (upd f 14 (1 : Int32)) 16 (1 : Int32)) (ua a 2 (upd (a 2) (7 : Int32).toNatClampNeg (((((a 2) (7 : Int32).toNatClampNeg) + (0 : Int32)) + (96 : Int32)) &&& (255 : Int32)))) ((upd (a 2) (7 : Int32).toNatClampNeg (((((a 2) (7 : Int32).toNatClampNeg) + (0 : Int32)) + (96 : Int32)) &&& (255 : Int32))) (7 : Int32).toNatClampNeg), ua a 2 (upd (a 2) (7 : Int32).toNatClampNeg (((((a 2) (7 : Int32).toNatClampNeg) + (0 : Int32)) + (96 : Int32)) &&& (255 : Int32)))) := by simp only [rAdjust, if_neg c_1, if_neg c_19, if_pos c_20, if_neg c_21]
              rw [hF]
              exact KC.retv hx hb hr hlocks hK hP hD hS dX5_adjust_122
      · refine lv_aload_n hx hb dX5_adjust_39 rfl (lv_at hl 2 rfl) ?_
        refine va_get (ci := 5) (v := .int (f 16)) (C := RX5) (T := TX5) (N := 24) hx hb hts hi5 hown hK hP 0 rfl rfl 10 (by decide) (hts (.fieldLink RX5 66 "InvaderBoardModel" "carry" "I") (by decide +kernel)) (fun _ h9 => h9) rfl dX5_adjust_40 ?_
        refine lv_iconst (v := 1) hx hb dX5_adjust_43 (by decide) ?_
        refine lv_icmp_ne (tgt := 51) hx hb dX5_adjust_44 (by decide) (fun c_26 => ?_) (fun c_26 => ?_)
        · refine lv_iconst (v := 0) hx hb dX5_adjust_51 (by decide) ?_
          refine lv_istore_n (lv' := [(3, .int _), (2, .int _), (1, .int _), (0, .ref _)]) hx hb dX5_adjust_52 rfl hl (by decide) rfl (fun ls hl => ?_)
          refine lv_aload_n hx hb dX5_adjust_53 rfl (lv_at hl 3 rfl) ?_
          refine lv_iload_n hx hb dX5_adjust_54 rfl (lv_at hl 2 rfl) ?_
          refine lv_bipush (v := 15) hx hb dX5_adjust_55 (by decide) ?_
          refine lv_iand hx hb dX5_adjust_57 ?_
          refine lv_iload_n hx hb dX5_adjust_58 rfl (lv_at hl 1 rfl) ?_
          refine lv_iadd hx hb dX5_adjust_59 ?_
          refine lv_bipush (v := 15) hx hb dX5_adjust_60 (by decide) ?_
          refine lv_icmp_le (tgt := 69) hx hb dX5_adjust_62 (by decide) (fun c_27 => ?_) (fun c_27 => ?_)
          · refine lv_iconst (v := 0) hx hb dX5_adjust_69 (by decide) ?_
            refine pu_R_f14 (v := (0 : Int32)) hx hb hts hi5 hown hK hP hD hS (hts (.fieldLink RX5 63 "InvaderBoardModel" "half" "I") (by decide +kernel)) dX5_adjust_70 (fun H locs hP hD hS => ?_)
            refine lv_aload_n hx hb dX5_adjust_73 rfl (lv_at hl 3 rfl) ?_
            refine lv_iload_n hx hb dX5_adjust_74 rfl (lv_at hl 0 rfl) ?_
            refine lv_if_eq (tgt := 82) hx hb dX5_adjust_75 (by decide) (fun c_28 => ?_) (fun c_28 => ?_)
            · refine lv_iconst (v := 0) hx hb dX5_adjust_82 (by decide) ?_
              refine pu_R_f16 (v := (0 : Int32)) hx hb hts hi5 hown hK hP hD hS (hts (.fieldLink RX5 66 "InvaderBoardModel" "carry" "I") (by decide +kernel)) dX5_adjust_83 (fun H locs hP hD hS => ?_)
              refine lv_aload_n hx hb dX5_adjust_86 rfl (lv_at hl 3 rfl) ?_
              refine va_get (ci := 5) (v := .ref (o 23)) (C := RX5) (T := TX5) (N := 24) hx hb hts hi5 hown hK hP 0 rfl rfl 3 (by decide) (hts (.fieldLink RX5 16 "InvaderBoardModel" "reg" "[I") (by decide +kernel)) (fun _ h9 => h9) rfl dX5_adjust_87 ?_
              refine lv_bipush (v := 7) hx hb dX5_adjust_90 (by decide) ?_
              refine lv_iload_n hx hb dX5_adjust_92 rfl (lv_at hl 2 rfl) ?_
              refine lv_iload_n hx hb dX5_adjust_93 rfl (lv_at hl 1 rfl) ?_
              refine lv_iadd hx hb dX5_adjust_94 ?_
              refine lv_iload_n hx hb dX5_adjust_95 rfl (lv_at hl 0 rfl) ?_
              refine lv_if_eq (tgt := 104) hx hb dX5_adjust_96 (by decide) (fun c_29 => ?_) (fun c_29 => ?_)
              · refine lv_iconst (v := 0) hx hb dX5_adjust_104 (by decide) ?_
                refine lv_iadd hx hb dX5_adjust_105 ?_
                refine lv_sipush (v := 255) hx hb dX5_adjust_106 (by decide) ?_
                refine lv_iand hx hb dX5_adjust_109 ?_
                refine pu_R_a2 hx hb hK hP hD hS (by unfold vp_in; decide) dX5_adjust_110 (fun H locs hP hD hS => ?_)
                refine lv_aload_n hx hb dX5_adjust_111 rfl (lv_at hl 3 rfl) ?_
                refine lv_aload_n hx hb dX5_adjust_112 rfl (lv_at hl 3 rfl) ?_
                refine va_get (ci := 5) (v := .ref (o 23)) (C := RX5) (T := TX5) (N := 24) hx hb hts hi5 hown hK hP 0 rfl rfl 3 (by decide) (hts (.fieldLink RX5 16 "InvaderBoardModel" "reg" "[I") (by decide +kernel)) (fun _ h9 => h9) rfl dX5_adjust_113 ?_
                refine lv_bipush (v := 7) hx hb dX5_adjust_116 (by decide) ?_
                refine va_iald (f := upd (a 2) (7 : Int32).toNatClampNeg (((((a 2) (7 : Int32).toNatClampNeg) + (0 : Int32)) + (0 : Int32)) &&& (255 : Int32))) hx hb hK hP 3 0 rfl rfl (by unfold vp_in; decide) dX5_adjust_118 ?_
                refine KC.callv (ci := 5) (rest := []) (wt := wR cI o (rSigns (upd (upd f 14 (0 : Int32)) 16 (0 : Int32)) (ua a 2 (upd (a 2) (7 : Int32).toNatClampNeg (((((a 2) (7 : Int32).toNatClampNeg) + (0 : Int32)) + (0 : Int32)) &&& (255 : Int32)))) ((upd (a 2) (7 : Int32).toNatClampNeg (((((a 2) (7 : Int32).toNatClampNeg) + (0 : Int32)) + (0 : Int32)) &&& (255 : Int32))) (7 : Int32).toNatClampNeg)) (ua a 2 (upd (a 2) (7 : Int32).toNatClampNeg (((((a 2) (7 : Int32).toNatClampNeg) + (0 : Int32)) + (0 : Int32)) &&& (255 : Int32))))) (kX5_signs l D cI o (upd (upd f 14 (0 : Int32)) 16 (0 : Int32)) (ua a 2 (upd (a 2) (7 : Int32).toNatClampNeg (((((a 2) (7 : Int32).toNatClampNeg) + (0 : Int32)) + (0 : Int32)) &&& (255 : Int32)))) ((upd (a 2) (7 : Int32).toNatClampNeg (((((a 2) (7 : Int32).toNatClampNeg) + (0 : Int32)) + (0 : Int32)) &&& (255 : Int32))) (7 : Int32).toNatClampNeg)) (cwV 1 hts gX5_adjust_X5_signs rfl rfl rfl (by decide +kernel) ⟨Nat.le_of_ble_eq_true rfl, Nat.le_of_ble_eq_true rfl⟩) ⟨hx, hb, hml, hown, hts⟩ hK hP hD hS hA rfl rfl rfl [0, 1, 2, 3, 4, 5, 6] [] [0, 1, 2, 3, 4, 5, 6] (by decide) rfl (wr := []) rfl (by decide) (by decide) (by decide) rfl rfl hl.1 rfl (Nat.le_of_ble_eq_true rfl) dX5_adjust_119 ⟨Nat.zero_le _, Nat.zero_le _⟩ (fun H locs hP hD hS => ?_)
                have hF : rAdjust f a = (rSigns (upd (upd f 14 (0 : Int32)) 16 (0 : Int32)) (ua a 2 (upd (a 2) (7 : Int32).toNatClampNeg (((((a 2) (7 : Int32).toNatClampNeg) + (0 : Int32)) + (0 : Int32)) &&& (255 : Int32)))) ((upd (a 2) (7 : Int32).toNatClampNeg (((((a 2) (7 : Int32).toNatClampNeg) + (0 : Int32)) + (0 : Int32)) &&& (255 : Int32))) (7 : Int32).toNatClampNeg), ua a 2 (upd (a 2) (7 : Int32).toNatClampNeg (((((a 2) (7 : Int32).toNatClampNeg) + (0 : Int32)) + (0 : Int32)) &&& (255 : Int32)))) := by simp only [rAdjust, if_neg c_1, if_neg c_19, if_neg c_20, if_neg c_26, if_pos c_27]
                rw [hF]
                exact KC.retv hx hb hr hlocks hK hP hD hS dX5_adjust_122
              · exact absurd c_29 (by decide)
            · exact absurd c_28 (by decide)
          · refine lv_iconst (v := 1) hx hb dX5_adjust_65 (by decide) ?_
            refine lv_goto (tgt := 70) hx hb dX5_adjust_66 (by decide) ?_
            refine pu_R_f14 (v := (1 : Int32)) hx hb hts hi5 hown hK hP hD hS (hts (.fieldLink RX5 63 "InvaderBoardModel" "half" "I") (by decide +kernel)) dX5_adjust_70 (fun H locs hP hD hS => ?_)
            refine lv_aload_n hx hb dX5_adjust_73 rfl (lv_at hl 3 rfl) ?_
            refine lv_iload_n hx hb dX5_adjust_74 rfl (lv_at hl 0 rfl) ?_
            refine lv_if_eq (tgt := 82) hx hb dX5_adjust_75 (by decide) (fun c_30 => ?_) (fun c_30 => ?_)
            · refine lv_iconst (v := 0) hx hb dX5_adjust_82 (by decide) ?_
              refine pu_R_f16 (v := (0 : Int32)) hx hb hts hi5 hown hK hP hD hS (hts (.fieldLink RX5 66 "InvaderBoardModel" "carry" "I") (by decide +kernel)) dX5_adjust_83 (fun H locs hP hD hS => ?_)
              refine lv_aload_n hx hb dX5_adjust_86 rfl (lv_at hl 3 rfl) ?_
              refine va_get (ci := 5) (v := .ref (o 23)) (C := RX5) (T := TX5) (N := 24) hx hb hts hi5 hown hK hP 0 rfl rfl 3 (by decide) (hts (.fieldLink RX5 16 "InvaderBoardModel" "reg" "[I") (by decide +kernel)) (fun _ h9 => h9) rfl dX5_adjust_87 ?_
              refine lv_bipush (v := 7) hx hb dX5_adjust_90 (by decide) ?_
              refine lv_iload_n hx hb dX5_adjust_92 rfl (lv_at hl 2 rfl) ?_
              refine lv_iload_n hx hb dX5_adjust_93 rfl (lv_at hl 1 rfl) ?_
              refine lv_iadd hx hb dX5_adjust_94 ?_
              refine lv_iload_n hx hb dX5_adjust_95 rfl (lv_at hl 0 rfl) ?_
              refine lv_if_eq (tgt := 104) hx hb dX5_adjust_96 (by decide) (fun c_31 => ?_) (fun c_31 => ?_)
              · refine lv_iconst (v := 0) hx hb dX5_adjust_104 (by decide) ?_
                refine lv_iadd hx hb dX5_adjust_105 ?_
                refine lv_sipush (v := 255) hx hb dX5_adjust_106 (by decide) ?_
                refine lv_iand hx hb dX5_adjust_109 ?_
                refine pu_R_a2 hx hb hK hP hD hS (by unfold vp_in; decide) dX5_adjust_110 (fun H locs hP hD hS => ?_)
                refine lv_aload_n hx hb dX5_adjust_111 rfl (lv_at hl 3 rfl) ?_
                refine lv_aload_n hx hb dX5_adjust_112 rfl (lv_at hl 3 rfl) ?_
                refine va_get (ci := 5) (v := .ref (o 23)) (C := RX5) (T := TX5) (N := 24) hx hb hts hi5 hown hK hP 0 rfl rfl 3 (by decide) (hts (.fieldLink RX5 16 "InvaderBoardModel" "reg" "[I") (by decide +kernel)) (fun _ h9 => h9) rfl dX5_adjust_113 ?_
                refine lv_bipush (v := 7) hx hb dX5_adjust_116 (by decide) ?_
                refine va_iald (f := upd (a 2) (7 : Int32).toNatClampNeg (((((a 2) (7 : Int32).toNatClampNeg) + (0 : Int32)) + (0 : Int32)) &&& (255 : Int32))) hx hb hK hP 3 0 rfl rfl (by unfold vp_in; decide) dX5_adjust_118 ?_
                refine KC.callv (ci := 5) (rest := []) (wt := wR cI o (rSigns (upd (upd f 14 (1 : Int32)) 16 (0 : Int32)) (ua a 2 (upd (a 2) (7 : Int32).toNatClampNeg (((((a 2) (7 : Int32).toNatClampNeg) + (0 : Int32)) + (0 : Int32)) &&& (255 : Int32)))) ((upd (a 2) (7 : Int32).toNatClampNeg (((((a 2) (7 : Int32).toNatClampNeg) + (0 : Int32)) + (0 : Int32)) &&& (255 : Int32))) (7 : Int32).toNatClampNeg)) (ua a 2 (upd (a 2) (7 : Int32).toNatClampNeg (((((a 2) (7 : Int32).toNatClampNeg) + (0 : Int32)) + (0 : Int32)) &&& (255 : Int32))))) (kX5_signs l D cI o (upd (upd f 14 (1 : Int32)) 16 (0 : Int32)) (ua a 2 (upd (a 2) (7 : Int32).toNatClampNeg (((((a 2) (7 : Int32).toNatClampNeg) + (0 : Int32)) + (0 : Int32)) &&& (255 : Int32)))) ((upd (a 2) (7 : Int32).toNatClampNeg (((((a 2) (7 : Int32).toNatClampNeg) + (0 : Int32)) + (0 : Int32)) &&& (255 : Int32))) (7 : Int32).toNatClampNeg)) (cwV 1 hts gX5_adjust_X5_signs rfl rfl rfl (by decide +kernel) ⟨Nat.le_of_ble_eq_true rfl, Nat.le_of_ble_eq_true rfl⟩) ⟨hx, hb, hml, hown, hts⟩ hK hP hD hS hA rfl rfl rfl [0, 1, 2, 3, 4, 5, 6] [] [0, 1, 2, 3, 4, 5, 6] (by decide) rfl (wr := []) rfl (by decide) (by decide) (by decide) rfl rfl hl.1 rfl (Nat.le_of_ble_eq_true rfl) dX5_adjust_119 ⟨Nat.zero_le _, Nat.zero_le _⟩ (fun H locs hP hD hS => ?_)
                have hF : rAdjust f a = (rSigns (upd (upd f 14 (1 : Int32)) 16 (0 : Int32)) (ua a 2 (upd (a 2) (7 : Int32).toNatClampNeg (((((a 2) (7 : Int32).toNatClampNeg) + (0 : Int32)) + (0 : Int32)) &&& (255 : Int32)))) ((upd (a 2) (7 : Int32).toNatClampNeg (((((a 2) (7 : Int32).toNatClampNeg) + (0 : Int32)) + (0 : Int32)) &&& (255 : Int32))) (7 : Int32).toNatClampNeg), ua a 2 (upd (a 2) (7 : Int32).toNatClampNeg (((((a 2) (7 : Int32).toNatClampNeg) + (0 : Int32)) + (0 : Int32)) &&& (255 : Int32)))) := by simp only [rAdjust, if_neg c_1, if_neg c_19, if_neg c_20, if_neg c_26, if_neg c_27]
                rw [hF]
                exact KC.retv hx hb hr hlocks hK hP hD hS dX5_adjust_122
              · exact absurd c_31 (by decide)
            · exact absurd c_30 (by decide)
        · refine lv_iconst (v := 1) hx hb dX5_adjust_47 (by decide) ?_
          refine lv_goto (tgt := 52) hx hb dX5_adjust_48 (by decide) ?_
          refine lv_istore_n (lv' := [(3, .int _), (2, .int _), (1, .int _), (0, .ref _)]) hx hb dX5_adjust_52 rfl hl (by decide) rfl (fun ls hl => ?_)
          refine lv_aload_n hx hb dX5_adjust_53 rfl (lv_at hl 3 rfl) ?_
          refine lv_iload_n hx hb dX5_adjust_54 rfl (lv_at hl 2 rfl) ?_
          refine lv_bipush (v := 15) hx hb dX5_adjust_55 (by decide) ?_
          refine lv_iand hx hb dX5_adjust_57 ?_
          refine lv_iload_n hx hb dX5_adjust_58 rfl (lv_at hl 1 rfl) ?_
          refine lv_iadd hx hb dX5_adjust_59 ?_
          refine lv_bipush (v := 15) hx hb dX5_adjust_60 (by decide) ?_
          refine lv_icmp_le (tgt := 69) hx hb dX5_adjust_62 (by decide) (fun c_32 => ?_) (fun c_32 => ?_)
          · refine lv_iconst (v := 0) hx hb dX5_adjust_69 (by decide) ?_
            refine pu_R_f14 (v := (0 : Int32)) hx hb hts hi5 hown hK hP hD hS (hts (.fieldLink RX5 63 "InvaderBoardModel" "half" "I") (by decide +kernel)) dX5_adjust_70 (fun H locs hP hD hS => ?_)
            refine lv_aload_n hx hb dX5_adjust_73 rfl (lv_at hl 3 rfl) ?_
            refine lv_iload_n hx hb dX5_adjust_74 rfl (lv_at hl 0 rfl) ?_
            refine lv_if_eq (tgt := 82) hx hb dX5_adjust_75 (by decide) (fun c_33 => ?_) (fun c_33 => ?_)
            · exact absurd c_33 (by decide)
            · refine lv_iconst (v := 1) hx hb dX5_adjust_78 (by decide) ?_
              refine lv_goto (tgt := 83) hx hb dX5_adjust_79 (by decide) ?_
              refine pu_R_f16 (v := (1 : Int32)) hx hb hts hi5 hown hK hP hD hS (hts (.fieldLink RX5 66 "InvaderBoardModel" "carry" "I") (by decide +kernel)) dX5_adjust_83 (fun H locs hP hD hS => ?_)
              refine lv_aload_n hx hb dX5_adjust_86 rfl (lv_at hl 3 rfl) ?_
              refine va_get (ci := 5) (v := .ref (o 23)) (C := RX5) (T := TX5) (N := 24) hx hb hts hi5 hown hK hP 0 rfl rfl 3 (by decide) (hts (.fieldLink RX5 16 "InvaderBoardModel" "reg" "[I") (by decide +kernel)) (fun _ h9 => h9) rfl dX5_adjust_87 ?_
              refine lv_bipush (v := 7) hx hb dX5_adjust_90 (by decide) ?_
              refine lv_iload_n hx hb dX5_adjust_92 rfl (lv_at hl 2 rfl) ?_
              refine lv_iload_n hx hb dX5_adjust_93 rfl (lv_at hl 1 rfl) ?_
              refine lv_iadd hx hb dX5_adjust_94 ?_
              refine lv_iload_n hx hb dX5_adjust_95 rfl (lv_at hl 0 rfl) ?_
              refine lv_if_eq (tgt := 104) hx hb dX5_adjust_96 (by decide) (fun c_34 => ?_) (fun c_34 => ?_)
              · exact absurd c_34 (by decide)
              · refine lv_bipush (v := 96) hx hb dX5_adjust_99 (by decide) ?_
                refine lv_goto (tgt := 105) hx hb dX5_adjust_101 (by decide) ?_
                refine lv_iadd hx hb dX5_adjust_105 ?_
                refine lv_sipush (v := 255) hx hb dX5_adjust_106 (by decide) ?_
                refine lv_iand hx hb dX5_adjust_109 ?_
                refine pu_R_a2 hx hb hK hP hD hS (by unfold vp_in; decide) dX5_adjust_110 (fun H locs hP hD hS => ?_)
                refine lv_aload_n hx hb dX5_adjust_111 rfl (lv_at hl 3 rfl) ?_
                refine lv_aload_n hx hb dX5_adjust_112 rfl (lv_at hl 3 rfl) ?_
                refine va_get (ci := 5) (v := .ref (o 23)) (C := RX5) (T := TX5) (N := 24) hx hb hts hi5 hown hK hP 0 rfl rfl 3 (by decide) (hts (.fieldLink RX5 16 "InvaderBoardModel" "reg" "[I") (by decide +kernel)) (fun _ h9 => h9) rfl dX5_adjust_113 ?_
                refine lv_bipush (v := 7) hx hb dX5_adjust_116 (by decide) ?_
                refine va_iald (f := upd (a 2) (7 : Int32).toNatClampNeg (((((a 2) (7 : Int32).toNatClampNeg) + (0 : Int32)) + (96 : Int32)) &&& (255 : Int32))) hx hb hK hP 3 0 rfl rfl (by unfold vp_in; decide) dX5_adjust_118 ?_
                refine KC.callv (ci := 5) (rest := []) (wt := wR cI o (rSigns (upd (upd f 14 (0 : Int32)) 16 (1 : Int32)) (ua a 2 (upd (a 2) (7 : Int32).toNatClampNeg (((((a 2) (7 : Int32).toNatClampNeg) + (0 : Int32)) + (96 : Int32)) &&& (255 : Int32)))) ((upd (a 2) (7 : Int32).toNatClampNeg (((((a 2) (7 : Int32).toNatClampNeg) + (0 : Int32)) + (96 : Int32)) &&& (255 : Int32))) (7 : Int32).toNatClampNeg)) (ua a 2 (upd (a 2) (7 : Int32).toNatClampNeg (((((a 2) (7 : Int32).toNatClampNeg) + (0 : Int32)) + (96 : Int32)) &&& (255 : Int32))))) (kX5_signs l D cI o (upd (upd f 14 (0 : Int32)) 16 (1 : Int32)) (ua a 2 (upd (a 2) (7 : Int32).toNatClampNeg (((((a 2) (7 : Int32).toNatClampNeg) + (0 : Int32)) + (96 : Int32)) &&& (255 : Int32)))) ((upd (a 2) (7 : Int32).toNatClampNeg (((((a 2) (7 : Int32).toNatClampNeg) + (0 : Int32)) + (96 : Int32)) &&& (255 : Int32))) (7 : Int32).toNatClampNeg)) (cwV 1 hts gX5_adjust_X5_signs rfl rfl rfl (by decide +kernel) ⟨Nat.le_of_ble_eq_true rfl, Nat.le_of_ble_eq_true rfl⟩) ⟨hx, hb, hml, hown, hts⟩ hK hP hD hS hA rfl rfl rfl [0, 1, 2, 3, 4, 5, 6] [] [0, 1, 2, 3, 4, 5, 6] (by decide) rfl (wr := []) rfl (by decide) (by decide) (by decide) rfl rfl hl.1 rfl (Nat.le_of_ble_eq_true rfl) dX5_adjust_119 ⟨Nat.zero_le _, Nat.zero_le _⟩ (fun H locs hP hD hS => ?_)
                have hF : rAdjust f a = (rSigns (upd (upd f 14 (0 : Int32)) 16 (1 : Int32)) (ua a 2 (upd (a 2) (7 : Int32).toNatClampNeg (((((a 2) (7 : Int32).toNatClampNeg) + (0 : Int32)) + (96 : Int32)) &&& (255 : Int32)))) ((upd (a 2) (7 : Int32).toNatClampNeg (((((a 2) (7 : Int32).toNatClampNeg) + (0 : Int32)) + (96 : Int32)) &&& (255 : Int32))) (7 : Int32).toNatClampNeg), ua a 2 (upd (a 2) (7 : Int32).toNatClampNeg (((((a 2) (7 : Int32).toNatClampNeg) + (0 : Int32)) + (96 : Int32)) &&& (255 : Int32)))) := by simp only [rAdjust, if_neg c_1, if_neg c_19, if_neg c_20, if_pos c_26, if_pos c_32]
                rw [hF]
                exact KC.retv hx hb hr hlocks hK hP hD hS dX5_adjust_122
          · refine lv_iconst (v := 1) hx hb dX5_adjust_65 (by decide) ?_
            refine lv_goto (tgt := 70) hx hb dX5_adjust_66 (by decide) ?_
            refine pu_R_f14 (v := (1 : Int32)) hx hb hts hi5 hown hK hP hD hS (hts (.fieldLink RX5 63 "InvaderBoardModel" "half" "I") (by decide +kernel)) dX5_adjust_70 (fun H locs hP hD hS => ?_)
            refine lv_aload_n hx hb dX5_adjust_73 rfl (lv_at hl 3 rfl) ?_
            refine lv_iload_n hx hb dX5_adjust_74 rfl (lv_at hl 0 rfl) ?_
            refine lv_if_eq (tgt := 82) hx hb dX5_adjust_75 (by decide) (fun c_35 => ?_) (fun c_35 => ?_)
            · exact absurd c_35 (by decide)
            · refine lv_iconst (v := 1) hx hb dX5_adjust_78 (by decide) ?_
              refine lv_goto (tgt := 83) hx hb dX5_adjust_79 (by decide) ?_
              refine pu_R_f16 (v := (1 : Int32)) hx hb hts hi5 hown hK hP hD hS (hts (.fieldLink RX5 66 "InvaderBoardModel" "carry" "I") (by decide +kernel)) dX5_adjust_83 (fun H locs hP hD hS => ?_)
              refine lv_aload_n hx hb dX5_adjust_86 rfl (lv_at hl 3 rfl) ?_
              refine va_get (ci := 5) (v := .ref (o 23)) (C := RX5) (T := TX5) (N := 24) hx hb hts hi5 hown hK hP 0 rfl rfl 3 (by decide) (hts (.fieldLink RX5 16 "InvaderBoardModel" "reg" "[I") (by decide +kernel)) (fun _ h9 => h9) rfl dX5_adjust_87 ?_
              refine lv_bipush (v := 7) hx hb dX5_adjust_90 (by decide) ?_
              refine lv_iload_n hx hb dX5_adjust_92 rfl (lv_at hl 2 rfl) ?_
              refine lv_iload_n hx hb dX5_adjust_93 rfl (lv_at hl 1 rfl) ?_
              refine lv_iadd hx hb dX5_adjust_94 ?_
              refine lv_iload_n hx hb dX5_adjust_95 rfl (lv_at hl 0 rfl) ?_
              refine lv_if_eq (tgt := 104) hx hb dX5_adjust_96 (by decide) (fun c_36 => ?_) (fun c_36 => ?_)
              · exact absurd c_36 (by decide)
              · refine lv_bipush (v := 96) hx hb dX5_adjust_99 (by decide) ?_
                refine lv_goto (tgt := 105) hx hb dX5_adjust_101 (by decide) ?_
                refine lv_iadd hx hb dX5_adjust_105 ?_
                refine lv_sipush (v := 255) hx hb dX5_adjust_106 (by decide) ?_
                refine lv_iand hx hb dX5_adjust_109 ?_
                refine pu_R_a2 hx hb hK hP hD hS (by unfold vp_in; decide) dX5_adjust_110 (fun H locs hP hD hS => ?_)
                refine lv_aload_n hx hb dX5_adjust_111 rfl (lv_at hl 3 rfl) ?_
                refine lv_aload_n hx hb dX5_adjust_112 rfl (lv_at hl 3 rfl) ?_
                refine va_get (ci := 5) (v := .ref (o 23)) (C := RX5) (T := TX5) (N := 24) hx hb hts hi5 hown hK hP 0 rfl rfl 3 (by decide) (hts (.fieldLink RX5 16 "InvaderBoardModel" "reg" "[I") (by decide +kernel)) (fun _ h9 => h9) rfl dX5_adjust_113 ?_
                refine lv_bipush (v := 7) hx hb dX5_adjust_116 (by decide) ?_
                refine va_iald (f := upd (a 2) (7 : Int32).toNatClampNeg (((((a 2) (7 : Int32).toNatClampNeg) + (0 : Int32)) + (96 : Int32)) &&& (255 : Int32))) hx hb hK hP 3 0 rfl rfl (by unfold vp_in; decide) dX5_adjust_118 ?_
                refine KC.callv (ci := 5) (rest := []) (wt := wR cI o (rSigns (upd (upd f 14 (1 : Int32)) 16 (1 : Int32)) (ua a 2 (upd (a 2) (7 : Int32).toNatClampNeg (((((a 2) (7 : Int32).toNatClampNeg) + (0 : Int32)) + (96 : Int32)) &&& (255 : Int32)))) ((upd (a 2) (7 : Int32).toNatClampNeg (((((a 2) (7 : Int32).toNatClampNeg) + (0 : Int32)) + (96 : Int32)) &&& (255 : Int32))) (7 : Int32).toNatClampNeg)) (ua a 2 (upd (a 2) (7 : Int32).toNatClampNeg (((((a 2) (7 : Int32).toNatClampNeg) + (0 : Int32)) + (96 : Int32)) &&& (255 : Int32))))) (kX5_signs l D cI o (upd (upd f 14 (1 : Int32)) 16 (1 : Int32)) (ua a 2 (upd (a 2) (7 : Int32).toNatClampNeg (((((a 2) (7 : Int32).toNatClampNeg) + (0 : Int32)) + (96 : Int32)) &&& (255 : Int32)))) ((upd (a 2) (7 : Int32).toNatClampNeg (((((a 2) (7 : Int32).toNatClampNeg) + (0 : Int32)) + (96 : Int32)) &&& (255 : Int32))) (7 : Int32).toNatClampNeg)) (cwV 1 hts gX5_adjust_X5_signs rfl rfl rfl (by decide +kernel) ⟨Nat.le_of_ble_eq_true rfl, Nat.le_of_ble_eq_true rfl⟩) ⟨hx, hb, hml, hown, hts⟩ hK hP hD hS hA rfl rfl rfl [0, 1, 2, 3, 4, 5, 6] [] [0, 1, 2, 3, 4, 5, 6] (by decide) rfl (wr := []) rfl (by decide) (by decide) (by decide) rfl rfl hl.1 rfl (Nat.le_of_ble_eq_true rfl) dX5_adjust_119 ⟨Nat.zero_le _, Nat.zero_le _⟩ (fun H locs hP hD hS => ?_)
                have hF : rAdjust f a = (rSigns (upd (upd f 14 (1 : Int32)) 16 (1 : Int32)) (ua a 2 (upd (a 2) (7 : Int32).toNatClampNeg (((((a 2) (7 : Int32).toNatClampNeg) + (0 : Int32)) + (96 : Int32)) &&& (255 : Int32)))) ((upd (a 2) (7 : Int32).toNatClampNeg (((((a 2) (7 : Int32).toNatClampNeg) + (0 : Int32)) + (96 : Int32)) &&& (255 : Int32))) (7 : Int32).toNatClampNeg), ua a 2 (upd (a 2) (7 : Int32).toNatClampNeg (((((a 2) (7 : Int32).toNatClampNeg) + (0 : Int32)) + (96 : Int32)) &&& (255 : Int32)))) := by simp only [rAdjust, if_neg c_1, if_neg c_19, if_neg c_20, if_pos c_26, if_neg c_32]
                rw [hF]
                exact KC.retv hx hb hr hlocks hK hP hD hS dX5_adjust_122
    · refine lv_bipush (v := 6) hx hb dX5_adjust_25 (by decide) ?_
      refine lv_goto (tgt := 31) hx hb dX5_adjust_27 (by decide) ?_
      refine lv_istore_n (lv' := [(2, .int _), (1, .int _), (0, .ref _)]) hx hb dX5_adjust_31 rfl hl (by decide) rfl (fun ls hl => ?_)
      refine lv_iload_n hx hb dX5_adjust_32 rfl (lv_at hl 1 rfl) ?_
      refine lv_sipush (v := 153) hx hb dX5_adjust_33 (by decide) ?_
      refine lv_icmp_gt (tgt := 47) hx hb dX5_adjust_36 (by decide) (fun c_37 => ?_) (fun c_37 => ?_)
      · refine lv_iconst (v := 1) hx hb dX5_adjust_47 (by decide) ?_
        refine lv_goto (tgt := 52) hx hb dX5_adjust_48 (by decide) ?_
        refine lv_istore_n (lv' := [(3, .int _), (2, .int _), (1, .int _), (0, .ref _)]) hx hb dX5_adjust_52 rfl hl (by decide) rfl (fun ls hl => ?_)
        refine lv_aload_n hx hb dX5_adjust_53 rfl (lv_at hl 3 rfl) ?_
        refine lv_iload_n hx hb dX5_adjust_54 rfl (lv_at hl 2 rfl) ?_
        refine lv_bipush (v := 15) hx hb dX5_adjust_55 (by decide) ?_
        refine lv_iand hx hb dX5_adjust_57 ?_
        refine lv_iload_n hx hb dX5_adjust_58 rfl (lv_at hl 1 rfl) ?_
        refine lv_iadd hx hb dX5_adjust_59 ?_
        refine lv_bipush (v := 15) hx hb dX5_adjust_60 (by decide) ?_
        refine lv_icmp_le (tgt := 69) hx hb dX5_adjust_62 (by decide) (fun c_38 => ?_) (fun c_38 => ?_)
        · refine lv_iconst (v := 0) hx hb dX5_adjust_69 (by decide) ?_
          refine pu_R_f14 (v := (0 : Int32)) hx hb hts hi5 hown hK hP hD hS (hts (.fieldLink RX5 63 "InvaderBoardModel" "half" "I") (by decide +kernel)) dX5_adjust_70 (fun H locs hP hD hS => ?_)
          refine lv_aload_n hx hb dX5_adjust_73 rfl (lv_at hl 3 rfl) ?_
          refine lv_iload_n hx hb dX5_adjust_74 rfl (lv_at hl 0 rfl) ?_
          refine lv_if_eq (tgt := 82) hx hb dX5_adjust_75 (by decide) (fun c_39 => ?_) (fun c_39 => ?_)
          · exact absurd c_39 (by decide)
          · refine lv_iconst (v := 1) hx hb dX5_adjust_78 (by decide) ?_
            refine lv_goto (tgt := 83) hx hb dX5_adjust_79 (by decide) ?_
            refine pu_R_f16 (v := (1 : Int32)) hx hb hts hi5 hown hK hP hD hS (hts (.fieldLink RX5 66 "InvaderBoardModel" "carry" "I") (by decide +kernel)) dX5_adjust_83 (fun H locs hP hD hS => ?_)
            refine lv_aload_n hx hb dX5_adjust_86 rfl (lv_at hl 3 rfl) ?_
            refine va_get (ci := 5) (v := .ref (o 23)) (C := RX5) (T := TX5) (N := 24) hx hb hts hi5 hown hK hP 0 rfl rfl 3 (by decide) (hts (.fieldLink RX5 16 "InvaderBoardModel" "reg" "[I") (by decide +kernel)) (fun _ h9 => h9) rfl dX5_adjust_87 ?_
            refine lv_bipush (v := 7) hx hb dX5_adjust_90 (by decide) ?_
            refine lv_iload_n hx hb dX5_adjust_92 rfl (lv_at hl 2 rfl) ?_
            refine lv_iload_n hx hb dX5_adjust_93 rfl (lv_at hl 1 rfl) ?_
            refine lv_iadd hx hb dX5_adjust_94 ?_
            refine lv_iload_n hx hb dX5_adjust_95 rfl (lv_at hl 0 rfl) ?_
            refine lv_if_eq (tgt := 104) hx hb dX5_adjust_96 (by decide) (fun c_40 => ?_) (fun c_40 => ?_)
            · exact absurd c_40 (by decide)
            · refine lv_bipush (v := 96) hx hb dX5_adjust_99 (by decide) ?_
              refine lv_goto (tgt := 105) hx hb dX5_adjust_101 (by decide) ?_
              refine lv_iadd hx hb dX5_adjust_105 ?_
              refine lv_sipush (v := 255) hx hb dX5_adjust_106 (by decide) ?_
              refine lv_iand hx hb dX5_adjust_109 ?_
              refine pu_R_a2 hx hb hK hP hD hS (by unfold vp_in; decide) dX5_adjust_110 (fun H locs hP hD hS => ?_)
              refine lv_aload_n hx hb dX5_adjust_111 rfl (lv_at hl 3 rfl) ?_
              refine lv_aload_n hx hb dX5_adjust_112 rfl (lv_at hl 3 rfl) ?_
              refine va_get (ci := 5) (v := .ref (o 23)) (C := RX5) (T := TX5) (N := 24) hx hb hts hi5 hown hK hP 0 rfl rfl 3 (by decide) (hts (.fieldLink RX5 16 "InvaderBoardModel" "reg" "[I") (by decide +kernel)) (fun _ h9 => h9) rfl dX5_adjust_113 ?_
              refine lv_bipush (v := 7) hx hb dX5_adjust_116 (by decide) ?_
              refine va_iald (f := upd (a 2) (7 : Int32).toNatClampNeg (((((a 2) (7 : Int32).toNatClampNeg) + (6 : Int32)) + (96 : Int32)) &&& (255 : Int32))) hx hb hK hP 3 0 rfl rfl (by unfold vp_in; decide) dX5_adjust_118 ?_
              refine KC.callv (ci := 5) (rest := []) (wt := wR cI o (rSigns (upd (upd f 14 (0 : Int32)) 16 (1 : Int32)) (ua a 2 (upd (a 2) (7 : Int32).toNatClampNeg (((((a 2) (7 : Int32).toNatClampNeg) + (6 : Int32)) + (96 : Int32)) &&& (255 : Int32)))) ((upd (a 2) (7 : Int32).toNatClampNeg (((((a 2) (7 : Int32).toNatClampNeg) + (6 : Int32)) + (96 : Int32)) &&& (255 : Int32))) (7 : Int32).toNatClampNeg)) (ua a 2 (upd (a 2) (7 : Int32).toNatClampNeg (((((a 2) (7 : Int32).toNatClampNeg) + (6 : Int32)) + (96 : Int32)) &&& (255 : Int32))))) (kX5_signs l D cI o (upd (upd f 14 (0 : Int32)) 16 (1 : Int32)) (ua a 2 (upd (a 2) (7 : Int32).toNatClampNeg (((((a 2) (7 : Int32).toNatClampNeg) + (6 : Int32)) + (96 : Int32)) &&& (255 : Int32)))) ((upd (a 2) (7 : Int32).toNatClampNeg (((((a 2) (7 : Int32).toNatClampNeg) + (6 : Int32)) + (96 : Int32)) &&& (255 : Int32))) (7 : Int32).toNatClampNeg)) (cwV 1 hts gX5_adjust_X5_signs rfl rfl rfl (by decide +kernel) ⟨Nat.le_of_ble_eq_true rfl, Nat.le_of_ble_eq_true rfl⟩) ⟨hx, hb, hml, hown, hts⟩ hK hP hD hS hA rfl rfl rfl [0, 1, 2, 3, 4, 5, 6] [] [0, 1, 2, 3, 4, 5, 6] (by decide) rfl (wr := []) rfl (by decide) (by decide) (by decide) rfl rfl hl.1 rfl (Nat.le_of_ble_eq_true rfl) dX5_adjust_119 ⟨Nat.zero_le _, Nat.zero_le _⟩ (fun H locs hP hD hS => ?_)
              have hF : rAdjust f a = (rSigns (upd (upd f 14 (0 : Int32)) 16 (1 : Int32)) (ua a 2 (upd (a 2) (7 : Int32).toNatClampNeg (((((a 2) (7 : Int32).toNatClampNeg) + (6 : Int32)) + (96 : Int32)) &&& (255 : Int32)))) ((upd (a 2) (7 : Int32).toNatClampNeg (((((a 2) (7 : Int32).toNatClampNeg) + (6 : Int32)) + (96 : Int32)) &&& (255 : Int32))) (7 : Int32).toNatClampNeg), ua a 2 (upd (a 2) (7 : Int32).toNatClampNeg (((((a 2) (7 : Int32).toNatClampNeg) + (6 : Int32)) + (96 : Int32)) &&& (255 : Int32)))) := by simp only [rAdjust, if_neg c_1, if_pos c_19, if_pos c_37, if_pos c_38]
              rw [hF]
              exact KC.retv hx hb hr hlocks hK hP hD hS dX5_adjust_122
        · refine lv_iconst (v := 1) hx hb dX5_adjust_65 (by decide) ?_
          refine lv_goto (tgt := 70) hx hb dX5_adjust_66 (by decide) ?_
          refine pu_R_f14 (v := (1 : Int32)) hx hb hts hi5 hown hK hP hD hS (hts (.fieldLink RX5 63 "InvaderBoardModel" "half" "I") (by decide +kernel)) dX5_adjust_70 (fun H locs hP hD hS => ?_)
          refine lv_aload_n hx hb dX5_adjust_73 rfl (lv_at hl 3 rfl) ?_
          refine lv_iload_n hx hb dX5_adjust_74 rfl (lv_at hl 0 rfl) ?_
          refine lv_if_eq (tgt := 82) hx hb dX5_adjust_75 (by decide) (fun c_41 => ?_) (fun c_41 => ?_)
          · exact absurd c_41 (by decide)
          · refine lv_iconst (v := 1) hx hb dX5_adjust_78 (by decide) ?_
            refine lv_goto (tgt := 83) hx hb dX5_adjust_79 (by decide) ?_
            refine pu_R_f16 (v := (1 : Int32)) hx hb hts hi5 hown hK hP hD hS (hts (.fieldLink RX5 66 "InvaderBoardModel" "carry" "I") (by decide +kernel)) dX5_adjust_83 (fun H locs hP hD hS => ?_)
            refine lv_aload_n hx hb dX5_adjust_86 rfl (lv_at hl 3 rfl) ?_
            refine va_get (ci := 5) (v := .ref (o 23)) (C := RX5) (T := TX5) (N := 24) hx hb hts hi5 hown hK hP 0 rfl rfl 3 (by decide) (hts (.fieldLink RX5 16 "InvaderBoardModel" "reg" "[I") (by decide +kernel)) (fun _ h9 => h9) rfl dX5_adjust_87 ?_
            refine lv_bipush (v := 7) hx hb dX5_adjust_90 (by decide) ?_
            refine lv_iload_n hx hb dX5_adjust_92 rfl (lv_at hl 2 rfl) ?_
            refine lv_iload_n hx hb dX5_adjust_93 rfl (lv_at hl 1 rfl) ?_
            refine lv_iadd hx hb dX5_adjust_94 ?_
            refine lv_iload_n hx hb dX5_adjust_95 rfl (lv_at hl 0 rfl) ?_
            refine lv_if_eq (tgt := 104) hx hb dX5_adjust_96 (by decide) (fun c_42 => ?_) (fun c_42 => ?_)
            · exact absurd c_42 (by decide)
            · refine lv_bipush (v := 96) hx hb dX5_adjust_99 (by decide) ?_
              refine lv_goto (tgt := 105) hx hb dX5_adjust_101 (by decide) ?_
              refine lv_iadd hx hb dX5_adjust_105 ?_
              refine lv_sipush (v := 255) hx hb dX5_adjust_106 (by decide) ?_
              refine lv_iand hx hb dX5_adjust_109 ?_
              refine pu_R_a2 hx hb hK hP hD hS (by unfold vp_in; decide) dX5_adjust_110 (fun H locs hP hD hS => ?_)
              refine lv_aload_n hx hb dX5_adjust_111 rfl (lv_at hl 3 rfl) ?_
              refine lv_aload_n hx hb dX5_adjust_112 rfl (lv_at hl 3 rfl) ?_
              refine va_get (ci := 5) (v := .ref (o 23)) (C := RX5) (T := TX5) (N := 24) hx hb hts hi5 hown hK hP 0 rfl rfl 3 (by decide) (hts (.fieldLink RX5 16 "InvaderBoardModel" "reg" "[I") (by decide +kernel)) (fun _ h9 => h9) rfl dX5_adjust_113 ?_
              refine lv_bipush (v := 7) hx hb dX5_adjust_116 (by decide) ?_
              refine va_iald (f := upd (a 2) (7 : Int32).toNatClampNeg (((((a 2) (7 : Int32).toNatClampNeg) + (6 : Int32)) + (96 : Int32)) &&& (255 : Int32))) hx hb hK hP 3 0 rfl rfl (by unfold vp_in; decide) dX5_adjust_118 ?_
              refine KC.callv (ci := 5) (rest := []) (wt := wR cI o (rSigns (upd (upd f 14 (1 : Int32)) 16 (1 : Int32)) (ua a 2 (upd (a 2) (7 : Int32).toNatClampNeg (((((a 2) (7 : Int32).toNatClampNeg) + (6 : Int32)) + (96 : Int32)) &&& (255 : Int32)))) ((upd (a 2) (7 : Int32).toNatClampNeg (((((a 2) (7 : Int32).toNatClampNeg) + (6 : Int32)) + (96 : Int32)) &&& (255 : Int32))) (7 : Int32).toNatClampNeg)) (ua a 2 (upd (a 2) (7 : Int32).toNatClampNeg (((((a 2) (7 : Int32).toNatClampNeg) + (6 : Int32)) + (96 : Int32)) &&& (255 : Int32))))) (kX5_signs l D cI o (upd (upd f 14 (1 : Int32)) 16 (1 : Int32)) (ua a 2 (upd (a 2) (7 : Int32).toNatClampNeg (((((a 2) (7 : Int32).toNatClampNeg) + (6 : Int32)) + (96 : Int32)) &&& (255 : Int32)))) ((upd (a 2) (7 : Int32).toNatClampNeg (((((a 2) (7 : Int32).toNatClampNeg) + (6 : Int32)) + (96 : Int32)) &&& (255 : Int32))) (7 : Int32).toNatClampNeg)) (cwV 1 hts gX5_adjust_X5_signs rfl rfl rfl (by decide +kernel) ⟨Nat.le_of_ble_eq_true rfl, Nat.le_of_ble_eq_true rfl⟩) ⟨hx, hb, hml, hown, hts⟩ hK hP hD hS hA rfl rfl rfl [0, 1, 2, 3, 4, 5, 6] [] [0, 1, 2, 3, 4, 5, 6] (by decide) rfl (wr := []) rfl (by decide) (by decide) (by decide) rfl rfl hl.1 rfl (Nat.le_of_ble_eq_true rfl) dX5_adjust_119 ⟨Nat.zero_le _, Nat.zero_le _⟩ (fun H locs hP hD hS => ?_)
              have hF : rAdjust f a = (rSigns (upd (upd f 14 (1 : Int32)) 16 (1 : Int32)) (ua a 2 (upd (a 2) (7 : Int32).toNatClampNeg (((((a 2) (7 : Int32).toNatClampNeg) + (6 : Int32)) + (96 : Int32)) &&& (255 : Int32)))) ((upd (a 2) (7 : Int32).toNatClampNeg (((((a 2) (7 : Int32).toNatClampNeg) + (6 : Int32)) + (96 : Int32)) &&& (255 : Int32))) (7 : Int32).toNatClampNeg), ua a 2 (upd (a 2) (7 : Int32).toNatClampNeg (((((a 2) (7 : Int32).toNatClampNeg) + (6 : Int32)) + (96 : Int32)) &&& (255 : Int32)))) := by simp only [rAdjust, if_neg c_1, if_pos c_19, if_pos c_37, if_neg c_38]
              rw [hF]
              exact KC.retv hx hb hr hlocks hK hP hD hS dX5_adjust_122
      · refine lv_aload_n hx hb dX5_adjust_39 rfl (lv_at hl 2 rfl) ?_
        refine va_get (ci := 5) (v := .int (f 16)) (C := RX5) (T := TX5) (N := 24) hx hb hts hi5 hown hK hP 0 rfl rfl 10 (by decide) (hts (.fieldLink RX5 66 "InvaderBoardModel" "carry" "I") (by decide +kernel)) (fun _ h9 => h9) rfl dX5_adjust_40 ?_
        refine lv_iconst (v := 1) hx hb dX5_adjust_43 (by decide) ?_
        refine lv_icmp_ne (tgt := 51) hx hb dX5_adjust_44 (by decide) (fun c_43 => ?_) (fun c_43 => ?_)
        · refine lv_iconst (v := 0) hx hb dX5_adjust_51 (by decide) ?_
          refine lv_istore_n (lv' := [(3, .int _), (2, .int _), (1, .int _), (0, .ref _)]) hx hb dX5_adjust_52 rfl hl (by decide) rfl (fun ls hl => ?_)
          refine lv_aload_n hx hb dX5_adjust_53 rfl (lv_at hl 3 rfl) ?_
          refine lv_iload_n hx hb dX5_adjust_54 rfl (lv_at hl 2 rfl) ?_
          refine lv_bipush (v := 15) hx hb dX5_adjust_55 (by decide) ?_
          refine lv_iand hx hb dX5_adjust_57 ?_
          refine lv_iload_n hx hb dX5_adjust_58 rfl (lv_at hl 1 rfl) ?_
          refine lv_iadd hx hb dX5_adjust_59 ?_
          refine lv_bipush (v := 15) hx hb dX5_adjust_60 (by decide) ?_
          refine lv_icmp_le (tgt := 69) hx hb dX5_adjust_62 (by decide) (fun c_44 => ?_) (fun c_44 => ?_)
          · refine lv_iconst (v := 0) hx hb dX5_adjust_69 (by decide) ?_
            refine pu_R_f14 (v := (0 : Int32)) hx hb hts hi5 hown hK hP hD hS (hts (.fieldLink RX5 63 "InvaderBoardModel" "half" "I") (by decide +kernel)) dX5_adjust_70 (fun H locs hP hD hS => ?_)
            refine lv_aload_n hx hb dX5_adjust_73 rfl (lv_at hl 3 rfl) ?_
            refine lv_iload_n hx hb dX5_adjust_74 rfl (lv_at hl 0 rfl) ?_
            refine lv_if_eq (tgt := 82) hx hb dX5_adjust_75 (by decide) (fun c_45 => ?_) (fun c_45 => ?_)
            · refine lv_iconst (v := 0) hx hb dX5_adjust_82 (by decide) ?_
              refine pu_R_f16 (v := (0 : Int32)) hx hb hts hi5 hown hK hP hD hS (hts (.fieldLink RX5 66 "InvaderBoardModel" "carry" "I") (by decide +kernel)) dX5_adjust_83 (fun H locs hP hD hS => ?_)
              refine lv_aload_n hx hb dX5_adjust_86 rfl (lv_at hl 3 rfl) ?_
              refine va_get (ci := 5) (v := .ref (o 23)) (C := RX5) (T := TX5) (N := 24) hx hb hts hi5 hown hK hP 0 rfl rfl 3 (by decide) (hts (.fieldLink RX5 16 "InvaderBoardModel" "reg" "[I") (by decide +kernel)) (fun _ h9 => h9) rfl dX5_adjust_87 ?_
              refine lv_bipush (v := 7) hx hb dX5_adjust_90 (by decide) ?_
              refine lv_iload_n hx hb dX5_adjust_92 rfl (lv_at hl 2 rfl) ?_
              refine lv_iload_n hx hb dX5_adjust_93 rfl (lv_at hl 1 rfl) ?_
              refine lv_iadd hx hb dX5_adjust_94 ?_
              refine lv_iload_n hx hb dX5_adjust_95 rfl (lv_at hl 0 rfl) ?_
              refine lv_if_eq (tgt := 104) hx hb dX5_adjust_96 (by decide) (fun c_46 => ?_) (fun c_46 => ?_)
              · refine lv_iconst (v := 0) hx hb dX5_adjust_104 (by decide) ?_
                refine lv_iadd hx hb dX5_adjust_105 ?_
                refine lv_sipush (v := 255) hx hb dX5_adjust_106 (by decide) ?_
                refine lv_iand hx hb dX5_adjust_109 ?_
                refine pu_R_a2 hx hb hK hP hD hS (by unfold vp_in; decide) dX5_adjust_110 (fun H locs hP hD hS => ?_)
                refine lv_aload_n hx hb dX5_adjust_111 rfl (lv_at hl 3 rfl) ?_
                refine lv_aload_n hx hb dX5_adjust_112 rfl (lv_at hl 3 rfl) ?_
                refine va_get (ci := 5) (v := .ref (o 23)) (C := RX5) (T := TX5) (N := 24) hx hb hts hi5 hown hK hP 0 rfl rfl 3 (by decide) (hts (.fieldLink RX5 16 "InvaderBoardModel" "reg" "[I") (by decide +kernel)) (fun _ h9 => h9) rfl dX5_adjust_113 ?_
                refine lv_bipush (v := 7) hx hb dX5_adjust_116 (by decide) ?_
                refine va_iald (f := upd (a 2) (7 : Int32).toNatClampNeg (((((a 2) (7 : Int32).toNatClampNeg) + (6 : Int32)) + (0 : Int32)) &&& (255 : Int32))) hx hb hK hP 3 0 rfl rfl (by unfold vp_in; decide) dX5_adjust_118 ?_
                refine KC.callv (ci := 5) (rest := []) (wt := wR cI o (rSigns (upd (upd f 14 (0 : Int32)) 16 (0 : Int32)) (ua a 2 (upd (a 2) (7 : Int32).toNatClampNeg (((((a 2) (7 : Int32).toNatClampNeg) + (6 : Int32)) + (0 : Int32)) &&& (255 : Int32)))) ((upd (a 2) (7 : Int32).toNatClampNeg (((((a 2) (7 : Int32).toNatClampNeg) + (6 : Int32)) + (0 : Int32)) &&& (255 : Int32))) (7 : Int32).toNatClampNeg)) (ua a 2 (upd (a 2) (7 : Int32).toNatClampNeg (((((a 2) (7 : Int32).toNatClampNeg) + (6 : Int32)) + (0 : Int32)) &&& (255 : Int32))))) (kX5_signs l D cI o (upd (upd f 14 (0 : Int32)) 16 (0 : Int32)) (ua a 2 (upd (a 2) (7 : Int32).toNatClampNeg (((((a 2) (7 : Int32).toNatClampNeg) + (6 : Int32)) + (0 : Int32)) &&& (255 : Int32)))) ((upd (a 2) (7 : Int32).toNatClampNeg (((((a 2) (7 : Int32).toNatClampNeg) + (6 : Int32)) + (0 : Int32)) &&& (255 : Int32))) (7 : Int32).toNatClampNeg)) (cwV 1 hts gX5_adjust_X5_signs rfl rfl rfl (by decide +kernel) ⟨Nat.le_of_ble_eq_true rfl, Nat.le_of_ble_eq_true rfl⟩) ⟨hx, hb, hml, hown, hts⟩ hK hP hD hS hA rfl rfl rfl [0, 1, 2, 3, 4, 5, 6] [] [0, 1, 2, 3, 4, 5, 6] (by decide) rfl (wr := []) rfl (by decide) (by decide) (by decide) rfl rfl hl.1 rfl (Nat.le_of_ble_eq_true rfl) dX5_adjust_119 ⟨Nat.zero_le _, Nat.zero_le _⟩ (fun H locs hP hD hS => ?_)
                have hF : rAdjust f a = (rSigns (upd (upd f 14 (0 : Int32)) 16 (0 : Int32)) (ua a 2 (upd (a 2) (7 : Int32).toNatClampNeg (((((a 2) (7 : Int32).toNatClampNeg) + (6 : Int32)) + (0 : Int32)) &&& (255 : Int32)))) ((upd (a 2) (7 : Int32).toNatClampNeg (((((a 2) (7 : Int32).toNatClampNeg) + (6 : Int32)) + (0 : Int32)) &&& (255 : Int32))) (7 : Int32).toNatClampNeg), ua a 2 (upd (a 2) (7 : Int32).toNatClampNeg (((((a 2) (7 : Int32).toNatClampNeg) + (6 : Int32)) + (0 : Int32)) &&& (255 : Int32)))) := by simp only [rAdjust, if_neg c_1, if_pos c_19, if_neg c_37, if_neg c_43, if_pos c_44]
                rw [hF]
                exact KC.retv hx hb hr hlocks hK hP hD hS dX5_adjust_122
              · exact absurd c_46 (by decide)
            · exact absurd c_45 (by decide)
          · refine lv_iconst (v := 1) hx hb dX5_adjust_65 (by decide) ?_
            refine lv_goto (tgt := 70) hx hb dX5_adjust_66 (by decide) ?_
            refine pu_R_f14 (v := (1 : Int32)) hx hb hts hi5 hown hK hP hD hS (hts (.fieldLink RX5 63 "InvaderBoardModel" "half" "I") (by decide +kernel)) dX5_adjust_70 (fun H locs hP hD hS => ?_)
            refine lv_aload_n hx hb dX5_adjust_73 rfl (lv_at hl 3 rfl) ?_
            refine lv_iload_n hx hb dX5_adjust_74 rfl (lv_at hl 0 rfl) ?_
            refine lv_if_eq (tgt := 82) hx hb dX5_adjust_75 (by decide) (fun c_47 => ?_) (fun c_47 => ?_)
            · refine lv_iconst (v := 0) hx hb dX5_adjust_82 (by decide) ?_
              refine pu_R_f16 (v := (0 : Int32)) hx hb hts hi5 hown hK hP hD hS (hts (.fieldLink RX5 66 "InvaderBoardModel" "carry" "I") (by decide +kernel)) dX5_adjust_83 (fun H locs hP hD hS => ?_)
              refine lv_aload_n hx hb dX5_adjust_86 rfl (lv_at hl 3 rfl) ?_
              refine va_get (ci := 5) (v := .ref (o 23)) (C := RX5) (T := TX5) (N := 24) hx hb hts hi5 hown hK hP 0 rfl rfl 3 (by decide) (hts (.fieldLink RX5 16 "InvaderBoardModel" "reg" "[I") (by decide +kernel)) (fun _ h9 => h9) rfl dX5_adjust_87 ?_
              refine lv_bipush (v := 7) hx hb dX5_adjust_90 (by decide) ?_
              refine lv_iload_n hx hb dX5_adjust_92 rfl (lv_at hl 2 rfl) ?_
              refine lv_iload_n hx hb dX5_adjust_93 rfl (lv_at hl 1 rfl) ?_
              refine lv_iadd hx hb dX5_adjust_94 ?_
              refine lv_iload_n hx hb dX5_adjust_95 rfl (lv_at hl 0 rfl) ?_
              refine lv_if_eq (tgt := 104) hx hb dX5_adjust_96 (by decide) (fun c_48 => ?_) (fun c_48 => ?_)
              · refine lv_iconst (v := 0) hx hb dX5_adjust_104 (by decide) ?_
                refine lv_iadd hx hb dX5_adjust_105 ?_
                refine lv_sipush (v := 255) hx hb dX5_adjust_106 (by decide) ?_
                refine lv_iand hx hb dX5_adjust_109 ?_
                refine pu_R_a2 hx hb hK hP hD hS (by unfold vp_in; decide) dX5_adjust_110 (fun H locs hP hD hS => ?_)
                refine lv_aload_n hx hb dX5_adjust_111 rfl (lv_at hl 3 rfl) ?_
                refine lv_aload_n hx hb dX5_adjust_112 rfl (lv_at hl 3 rfl) ?_
                refine va_get (ci := 5) (v := .ref (o 23)) (C := RX5) (T := TX5) (N := 24) hx hb hts hi5 hown hK hP 0 rfl rfl 3 (by decide) (hts (.fieldLink RX5 16 "InvaderBoardModel" "reg" "[I") (by decide +kernel)) (fun _ h9 => h9) rfl dX5_adjust_113 ?_
                refine lv_bipush (v := 7) hx hb dX5_adjust_116 (by decide) ?_
                refine va_iald (f := upd (a 2) (7 : Int32).toNatClampNeg (((((a 2) (7 : Int32).toNatClampNeg) + (6 : Int32)) + (0 : Int32)) &&& (255 : Int32))) hx hb hK hP 3 0 rfl rfl (by unfold vp_in; decide) dX5_adjust_118 ?_
                refine KC.callv (ci := 5) (rest := []) (wt := wR cI o (rSigns (upd (upd f 14 (1 : Int32)) 16 (0 : Int32)) (ua a 2 (upd (a 2) (7 : Int32).toNatClampNeg (((((a 2) (7 : Int32).toNatClampNeg) + (6 : Int32)) + (0 : Int32)) &&& (255 : Int32)))) ((upd (a 2) (7 : Int32).toNatClampNeg (((((a 2) (7 : Int32).toNatClampNeg) + (6 : Int32)) + (0 : Int32)) &&& (255 : Int32))) (7 : Int32).toNatClampNeg)) (ua a 2 (upd (a 2) (7 : Int32).toNatClampNeg (((((a 2) (7 : Int32).toNatClampNeg) + (6 : Int32)) + (0 : Int32)) &&& (255 : Int32))))) (kX5_signs l D cI o (upd (upd f 14 (1 : Int32)) 16 (0 : Int32)) (ua a 2 (upd (a 2) (7 : Int32).toNatClampNeg (((((a 2) (7 : Int32).toNatClampNeg) + (6 : Int32)) + (0 : Int32)) &&& (255 : Int32)))) ((upd (a 2) (7 : Int32).toNatClampNeg (((((a 2) (7 : Int32).toNatClampNeg) + (6 : Int32)) + (0 : Int32)) &&& (255 : Int32))) (7 : Int32).toNatClampNeg)) (cwV 1 hts gX5_adjust_X5_signs rfl rfl rfl (by decide +kernel) ⟨Nat.le_of_ble_eq_true rfl, Nat.le_of_ble_eq_true rfl⟩) ⟨hx, hb, hml, hown, hts⟩ hK hP hD hS hA rfl rfl rfl [0, 1, 2, 3, 4, 5, 6] [] [0, 1, 2, 3, 4, 5, 6] (by decide) rfl (wr := []) rfl (by decide) (by decide) (by decide) rfl rfl hl.1 rfl (Nat.le_of_ble_eq_true rfl) dX5_adjust_119 ⟨Nat.zero_le _, Nat.zero_le _⟩ (fun H locs hP hD hS => ?_)
                have hF : rAdjust f a = (rSigns (upd (upd f 14 (1 : Int32)) 16 (0 : Int32)) (ua a 2 (upd (a 2) (7 : Int32).toNatClampNeg (((((a 2) (7 : Int32).toNatClampNeg) + (6 : Int32)) + (0 : Int32)) &&& (255 : Int32)))) ((upd (a 2) (7 : Int32).toNatClampNeg (((((a 2) (7 : Int32).toNatClampNeg) + (6 : Int32)) + (0 : Int32)) &&& (255 : Int32))) (7 : Int32).toNatClampNeg), ua a 2 (upd (a 2) (7 : Int32).toNatClampNeg (((((a 2) (7 : Int32).toNatClampNeg) + (6 : Int32)) + (0 : Int32)) &&& (255 : Int32)))) := by simp only [rAdjust, if_neg c_1, if_pos c_19, if_neg c_37, if_neg c_43, if_neg c_44]
                rw [hF]
                exact KC.retv hx hb hr hlocks hK hP hD hS dX5_adjust_122
              · exact absurd c_48 (by decide)
            · exact absurd c_47 (by decide)
        · refine lv_iconst (v := 1) hx hb dX5_adjust_47 (by decide) ?_
          refine lv_goto (tgt := 52) hx hb dX5_adjust_48 (by decide) ?_
          refine lv_istore_n (lv' := [(3, .int _), (2, .int _), (1, .int _), (0, .ref _)]) hx hb dX5_adjust_52 rfl hl (by decide) rfl (fun ls hl => ?_)
          refine lv_aload_n hx hb dX5_adjust_53 rfl (lv_at hl 3 rfl) ?_
          refine lv_iload_n hx hb dX5_adjust_54 rfl (lv_at hl 2 rfl) ?_
          refine lv_bipush (v := 15) hx hb dX5_adjust_55 (by decide) ?_
          refine lv_iand hx hb dX5_adjust_57 ?_
          refine lv_iload_n hx hb dX5_adjust_58 rfl (lv_at hl 1 rfl) ?_
          refine lv_iadd hx hb dX5_adjust_59 ?_
          refine lv_bipush (v := 15) hx hb dX5_adjust_60 (by decide) ?_
          refine lv_icmp_le (tgt := 69) hx hb dX5_adjust_62 (by decide) (fun c_49 => ?_) (fun c_49 => ?_)
          · refine lv_iconst (v := 0) hx hb dX5_adjust_69 (by decide) ?_
            refine pu_R_f14 (v := (0 : Int32)) hx hb hts hi5 hown hK hP hD hS (hts (.fieldLink RX5 63 "InvaderBoardModel" "half" "I") (by decide +kernel)) dX5_adjust_70 (fun H locs hP hD hS => ?_)
            refine lv_aload_n hx hb dX5_adjust_73 rfl (lv_at hl 3 rfl) ?_
            refine lv_iload_n hx hb dX5_adjust_74 rfl (lv_at hl 0 rfl) ?_
            refine lv_if_eq (tgt := 82) hx hb dX5_adjust_75 (by decide) (fun c_50 => ?_) (fun c_50 => ?_)
            · exact absurd c_50 (by decide)
            · refine lv_iconst (v := 1) hx hb dX5_adjust_78 (by decide) ?_
              refine lv_goto (tgt := 83) hx hb dX5_adjust_79 (by decide) ?_
              refine pu_R_f16 (v := (1 : Int32)) hx hb hts hi5 hown hK hP hD hS (hts (.fieldLink RX5 66 "InvaderBoardModel" "carry" "I") (by decide +kernel)) dX5_adjust_83 (fun H locs hP hD hS => ?_)
              refine lv_aload_n hx hb dX5_adjust_86 rfl (lv_at hl 3 rfl) ?_
              refine va_get (ci := 5) (v := .ref (o 23)) (C := RX5) (T := TX5) (N := 24) hx hb hts hi5 hown hK hP 0 rfl rfl 3 (by decide) (hts (.fieldLink RX5 16 "InvaderBoardModel" "reg" "[I") (by decide +kernel)) (fun _ h9 => h9) rfl dX5_adjust_87 ?_
              refine lv_bipush (v := 7) hx hb dX5_adjust_90 (by decide) ?_
              refine lv_iload_n hx hb dX5_adjust_92 rfl (lv_at hl 2 rfl) ?_
              refine lv_iload_n hx hb dX5_adjust_93 rfl (lv_at hl 1 rfl) ?_
              refine lv_iadd hx hb dX5_adjust_94 ?_
              refine lv_iload_n hx hb dX5_adjust_95 rfl (lv_at hl 0 rfl) ?_
              refine lv_if_eq (tgt := 104) hx hb dX5_adjust_96 (by decide) (fun c_51 => ?_) (fun c_51 => ?_)
              · exact absurd c_51 (by decide)
              · refine lv_bipush (v := 96) hx hb dX5_adjust_99 (by decide) ?_
                refine lv_goto (tgt := 105) hx hb dX5_adjust_101 (by decide) ?_
                refine lv_iadd hx hb dX5_adjust_105 ?_
                refine lv_sipush (v := 255) hx hb dX5_adjust_106 (by decide) ?_
                refine lv_iand hx hb dX5_adjust_109 ?_
                refine pu_R_a2 hx hb hK hP hD hS (by unfold vp_in; decide) dX5_adjust_110 (fun H locs hP hD hS => ?_)
                refine lv_aload_n hx hb dX5_adjust_111 rfl (lv_at hl 3 rfl) ?_
                refine lv_aload_n hx hb dX5_adjust_112 rfl (lv_at hl 3 rfl) ?_
                refine va_get (ci := 5) (v := .ref (o 23)) (C := RX5) (T := TX5) (N := 24) hx hb hts hi5 hown hK hP 0 rfl rfl 3 (by decide) (hts (.fieldLink RX5 16 "InvaderBoardModel" "reg" "[I") (by decide +kernel)) (fun _ h9 => h9) rfl dX5_adjust_113 ?_
                refine lv_bipush (v := 7) hx hb dX5_adjust_116 (by decide) ?_
                refine va_iald (f := upd (a 2) (7 : Int32).toNatClampNeg (((((a 2) (7 : Int32).toNatClampNeg) + (6 : Int32)) + (96 : Int32)) &&& (255 : Int32))) hx hb hK hP 3 0 rfl rfl (by unfold vp_in; decide) dX5_adjust_118 ?_
                refine KC.callv (ci := 5) (rest := []) (wt := wR cI o (rSigns (upd (upd f 14 (0 : Int32)) 16 (1 : Int32)) (ua a 2 (upd (a 2) (7 : Int32).toNatClampNeg (((((a 2) (7 : Int32).toNatClampNeg) + (6 : Int32)) + (96 : Int32)) &&& (255 : Int32)))) ((upd (a 2) (7 : Int32).toNatClampNeg (((((a 2) (7 : Int32).toNatClampNeg) + (6 : Int32)) + (96 : Int32)) &&& (255 : Int32))) (7 : Int32).toNatClampNeg)) (ua a 2 (upd (a 2) (7 : Int32).toNatClampNeg (((((a 2) (7 : Int32).toNatClampNeg) + (6 : Int32)) + (96 : Int32)) &&& (255 : Int32))))) (kX5_signs l D cI o (upd (upd f 14 (0 : Int32)) 16 (1 : Int32)) (ua a 2 (upd (a 2) (7 : Int32).toNatClampNeg (((((a 2) (7 : Int32).toNatClampNeg) + (6 : Int32)) + (96 : Int32)) &&& (255 : Int32)))) ((upd (a 2) (7 : Int32).toNatClampNeg (((((a 2) (7 : Int32).toNatClampNeg) + (6 : Int32)) + (96 : Int32)) &&& (255 : Int32))) (7 : Int32).toNatClampNeg)) (cwV 1 hts gX5_adjust_X5_signs rfl rfl rfl (by decide +kernel) ⟨Nat.le_of_ble_eq_true rfl, Nat.le_of_ble_eq_true rfl⟩) ⟨hx, hb, hml, hown, hts⟩ hK hP hD hS hA rfl rfl rfl [0, 1, 2, 3, 4, 5, 6] [] [0, 1, 2, 3, 4, 5, 6] (by decide) rfl (wr := []) rfl (by decide) (by decide) (by decide) rfl rfl hl.1 rfl (Nat.le_of_ble_eq_true rfl) dX5_adjust_119 ⟨Nat.zero_le _, Nat.zero_le _⟩ (fun H locs hP hD hS => ?_)
                have hF : rAdjust f a = (rSigns (upd (upd f 14 (0 : Int32)) 16 (1 : Int32)) (ua a 2 (upd (a 2) (7 : Int32).toNatClampNeg (((((a 2) (7 : Int32).toNatClampNeg) + (6 : Int32)) + (96 : Int32)) &&& (255 : Int32)))) ((upd (a 2) (7 : Int32).toNatClampNeg (((((a 2) (7 : Int32).toNatClampNeg) + (6 : Int32)) + (96 : Int32)) &&& (255 : Int32))) (7 : Int32).toNatClampNeg), ua a 2 (upd (a 2) (7 : Int32).toNatClampNeg (((((a 2) (7 : Int32).toNatClampNeg) + (6 : Int32)) + (96 : Int32)) &&& (255 : Int32)))) := by simp only [rAdjust, if_neg c_1, if_pos c_19, if_neg c_37, if_pos c_43, if_pos c_49]
                rw [hF]
                exact KC.retv hx hb hr hlocks hK hP hD hS dX5_adjust_122
          · refine lv_iconst (v := 1) hx hb dX5_adjust_65 (by decide) ?_
            refine lv_goto (tgt := 70) hx hb dX5_adjust_66 (by decide) ?_
            refine pu_R_f14 (v := (1 : Int32)) hx hb hts hi5 hown hK hP hD hS (hts (.fieldLink RX5 63 "InvaderBoardModel" "half" "I") (by decide +kernel)) dX5_adjust_70 (fun H locs hP hD hS => ?_)
            refine lv_aload_n hx hb dX5_adjust_73 rfl (lv_at hl 3 rfl) ?_
            refine lv_iload_n hx hb dX5_adjust_74 rfl (lv_at hl 0 rfl) ?_
            refine lv_if_eq (tgt := 82) hx hb dX5_adjust_75 (by decide) (fun c_52 => ?_) (fun c_52 => ?_)
            · exact absurd c_52 (by decide)
            · refine lv_iconst (v := 1) hx hb dX5_adjust_78 (by decide) ?_
              refine lv_goto (tgt := 83) hx hb dX5_adjust_79 (by decide) ?_
              refine pu_R_f16 (v := (1 : Int32)) hx hb hts hi5 hown hK hP hD hS (hts (.fieldLink RX5 66 "InvaderBoardModel" "carry" "I") (by decide +kernel)) dX5_adjust_83 (fun H locs hP hD hS => ?_)
              refine lv_aload_n hx hb dX5_adjust_86 rfl (lv_at hl 3 rfl) ?_
              refine va_get (ci := 5) (v := .ref (o 23)) (C := RX5) (T := TX5) (N := 24) hx hb hts hi5 hown hK hP 0 rfl rfl 3 (by decide) (hts (.fieldLink RX5 16 "InvaderBoardModel" "reg" "[I") (by decide +kernel)) (fun _ h9 => h9) rfl dX5_adjust_87 ?_
              refine lv_bipush (v := 7) hx hb dX5_adjust_90 (by decide) ?_
              refine lv_iload_n hx hb dX5_adjust_92 rfl (lv_at hl 2 rfl) ?_
              refine lv_iload_n hx hb dX5_adjust_93 rfl (lv_at hl 1 rfl) ?_
              refine lv_iadd hx hb dX5_adjust_94 ?_
              refine lv_iload_n hx hb dX5_adjust_95 rfl (lv_at hl 0 rfl) ?_
              refine lv_if_eq (tgt := 104) hx hb dX5_adjust_96 (by decide) (fun c_53 => ?_) (fun c_53 => ?_)
              · exact absurd c_53 (by decide)
              · refine lv_bipush (v := 96) hx hb dX5_adjust_99 (by decide) ?_
                refine lv_goto (tgt := 105) hx hb dX5_adjust_101 (by decide) ?_
                refine lv_iadd hx hb dX5_adjust_105 ?_
                refine lv_sipush (v := 255) hx hb dX5_adjust_106 (by decide) ?_
                refine lv_iand hx hb dX5_adjust_109 ?_
                refine pu_R_a2 hx hb hK hP hD hS (by unfold vp_in; decide) dX5_adjust_110 (fun H locs hP hD hS => ?_)
                refine lv_aload_n hx hb dX5_adjust_111 rfl (lv_at hl 3 rfl) ?_
                refine lv_aload_n hx hb dX5_adjust_112 rfl (lv_at hl 3 rfl) ?_
                refine va_get (ci := 5) (v := .ref (o 23)) (C := RX5) (T := TX5) (N := 24) hx hb hts hi5 hown hK hP 0 rfl rfl 3 (by decide) (hts (.fieldLink RX5 16 "InvaderBoardModel" "reg" "[I") (by decide +kernel)) (fun _ h9 => h9) rfl dX5_adjust_113 ?_
                refine lv_bipush (v := 7) hx hb dX5_adjust_116 (by decide) ?_
                refine va_iald (f := upd (a 2) (7 : Int32).toNatClampNeg (((((a 2) (7 : Int32).toNatClampNeg) + (6 : Int32)) + (96 : Int32)) &&& (255 : Int32))) hx hb hK hP 3 0 rfl rfl (by unfold vp_in; decide) dX5_adjust_118 ?_
                refine KC.callv (ci := 5) (rest := []) (wt := wR cI o (rSigns (upd (upd f 14 (1 : Int32)) 16 (1 : Int32)) (ua a 2 (upd (a 2) (7 : Int32).toNatClampNeg (((((a 2) (7 : Int32).toNatClampNeg) + (6 : Int32)) + (96 : Int32)) &&& (255 : Int32)))) ((upd (a 2) (7 : Int32).toNatClampNeg (((((a 2) (7 : Int32).toNatClampNeg) + (6 : Int32)) + (96 : Int32)) &&& (255 : Int32))) (7 : Int32).toNatClampNeg)) (ua a 2 (upd (a 2) (7 : Int32).toNatClampNeg (((((a 2) (7 : Int32).toNatClampNeg) + (6 : Int32)) + (96 : Int32)) &&& (255 : Int32))))) (kX5_signs l D cI o (upd (upd f 14 (1 : Int32)) 16 (1 : Int32)) (ua a 2 (upd (a 2) (7 : Int32).toNatClampNeg (((((a 2) (7 : Int32).toNatClampNeg) + (6 : Int32)) + (96 : Int32)) &&& (255 : Int32)))) ((upd (a 2) (7 : Int32).toNatClampNeg (((((a 2) (7 : Int32).toNatClampNeg) + (6 : Int32)) + (96 : Int32)) &&& (255 : Int32))) (7 : Int32).toNatClampNeg)) (cwV 1 hts gX5_adjust_X5_signs rfl rfl rfl (by decide +kernel) ⟨Nat.le_of_ble_eq_true rfl, Nat.le_of_ble_eq_true rfl⟩) ⟨hx, hb, hml, hown, hts⟩ hK hP hD hS hA rfl rfl rfl [0, 1, 2, 3, 4, 5, 6] [] [0, 1, 2, 3, 4, 5, 6] (by decide) rfl (wr := []) rfl (by decide) (by decide) (by decide) rfl rfl hl.1 rfl (Nat.le_of_ble_eq_true rfl) dX5_adjust_119 ⟨Nat.zero_le _, Nat.zero_le _⟩ (fun H locs hP hD hS => ?_)
                have hF : rAdjust f a = (rSigns (upd (upd f 14 (1 : Int32)) 16 (1 : Int32)) (ua a 2 (upd (a 2) (7 : Int32).toNatClampNeg (((((a 2) (7 : Int32).toNatClampNeg) + (6 : Int32)) + (96 : Int32)) &&& (255 : Int32)))) ((upd (a 2) (7 : Int32).toNatClampNeg (((((a 2) (7 : Int32).toNatClampNeg) + (6 : Int32)) + (96 : Int32)) &&& (255 : Int32))) (7 : Int32).toNatClampNeg), ua a 2 (upd (a 2) (7 : Int32).toNatClampNeg (((((a 2) (7 : Int32).toNatClampNeg) + (6 : Int32)) + (96 : Int32)) &&& (255 : Int32)))) := by simp only [rAdjust, if_neg c_1, if_pos c_19, if_neg c_37, if_pos c_43, if_neg c_49]
                rw [hF]
                exact KC.retv hx hb hr hlocks hK hP hD hS dX5_adjust_122
def rTurn (f : Nat → Int32) (a : Nat → Nat → Int32) (p1 : Int32) : (Nat → Int32) × (Nat → Nat → Int32) :=
  if p1 = 0 then if p1 = 0 then (upd f 16 (((a 2) (7 : Int32).toNatClampNeg) >>> ((7 : Int32) &&& 31)), ua a 2 (upd (a 2) (7 : Int32).toNatClampNeg (((((a 2) (7 : Int32).toNatClampNeg) <<< ((1 : Int32) &&& 31)) &&& (254 : Int32)) ||| (((a 2) (7 : Int32).toNatClampNeg) >>> ((7 : Int32) &&& 31)))))
    else (upd f 16 (((a 2) (7 : Int32).toNatClampNeg) >>> ((7 : Int32) &&& 31)), ua a 2 (upd (a 2) (7 : Int32).toNatClampNeg (((((a 2) (7 : Int32).toNatClampNeg) <<< ((1 : Int32) &&& 31)) &&& (254 : Int32)) ||| (f 16))))
  else if p1 = (2 : Int32) then if p1 = 0 then (upd f 16 (((a 2) (7 : Int32).toNatClampNeg) >>> ((7 : Int32) &&& 31)), ua a 2 (upd (a 2) (7 : Int32).toNatClampNeg (((((a 2) (7 : Int32).toNatClampNeg) <<< ((1 : Int32) &&& 31)) &&& (254 : Int32)) ||| (((a 2) (7 : Int32).toNatClampNeg) >>> ((7 : Int32) &&& 31)))))
      else (upd f 16 (((a 2) (7 : Int32).toNatClampNeg) >>> ((7 : Int32) &&& 31)), ua a 2 (upd (a 2) (7 : Int32).toNatClampNeg (((((a 2) (7 : Int32).toNatClampNeg) <<< ((1 : Int32) &&& 31)) &&& (254 : Int32)) ||| (f 16))))
    else if p1 = (1 : Int32) then if p1 = (1 : Int32) then (upd f 16 (((a 2) (7 : Int32).toNatClampNeg) &&& (1 : Int32)), ua a 2 (upd (a 2) (7 : Int32).toNatClampNeg ((((a 2) (7 : Int32).toNatClampNeg) >>> ((1 : Int32) &&& 31)) ||| ((((a 2) (7 : Int32).toNatClampNeg) &&& (1 : Int32)) <<< ((7 : Int32) &&& 31)))))
        else (upd f 16 (((a 2) (7 : Int32).toNatClampNeg) &&& (1 : Int32)), ua a 2 (upd (a 2) (7 : Int32).toNatClampNeg ((((a 2) (7 : Int32).toNatClampNeg) >>> ((1 : Int32) &&& 31)) ||| ((f 16) <<< ((7 : Int32) &&& 31)))))
      else if p1 = (3 : Int32) then if p1 = (1 : Int32) then (upd f 16 (((a 2) (7 : Int32).toNatClampNeg) &&& (1 : Int32)), ua a 2 (upd (a 2) (7 : Int32).toNatClampNeg ((((a 2) (7 : Int32).toNatClampNeg) >>> ((1 : Int32) &&& 31)) ||| ((((a 2) (7 : Int32).toNatClampNeg) &&& (1 : Int32)) <<< ((7 : Int32) &&& 31)))))
          else (upd f 16 (((a 2) (7 : Int32).toNatClampNeg) &&& (1 : Int32)), ua a 2 (upd (a 2) (7 : Int32).toNatClampNeg ((((a 2) (7 : Int32).toNatClampNeg) >>> ((1 : Int32) &&& 31)) ||| ((f 16) <<< ((7 : Int32) &&& 31)))))
        else if p1 = (4 : Int32) then (match rAdjust f a with
            | (f_10, a_10) => (f_10, a_10))
          else if p1 = (5 : Int32) then (f, ua a 2 (upd (a 2) (7 : Int32).toNatClampNeg ((((a 2) (7 : Int32).toNatClampNeg) ^^^ (-1 : Int32)) &&& (255 : Int32))))
            else if p1 = (6 : Int32) then (upd f 16 (1 : Int32), a)
              else (upd f 16 ((1 : Int32) - (f 16)), a)
set_option maxHeartbeats 4000000 in
set_option maxRecDepth 100000 in
theorem kX5_turn (l : Launch) (D : va_G) (cI : ClassId) (o : Nat → Nat) (f : Nat → Int32) (a : Nat → Nat → Int32) (p1 : Int32) : KC l yX5_turn wsX5_turn 2 [.ref (o 20), .int p1] D cI (wR cI o f a) (wR cI o ((rTurn f a p1).1) ((rTurn f a p1).2)) none := by
  refine KC.of (cc := cX5_turn) (maxL := 3) (by decide) rfl (Nat.le_of_ble_eq_true rfl) ?_
  intro p e s m below meth c A hx hb hr hts hown hlocks hml hK hP hD hS hA ls hl
  have hl : lv_has ls 3 [(0, .ref (o 20)), (1, .int p1)] := hl
  have hown : s.vm.findClass RX5 = some m.cls := hown
  have hi5 : ∀ w ∈ u_ws RX5 TX5 24, w ∈ wsX5_turn := by decide +kernel
  refine lv_aload_n hx hb dX5_turn_0 rfl (lv_at hl 0 rfl) ?_
  refine va_get (ci := 5) (v := .ref (o 23)) (C := RX5) (T := TX5) (N := 24) hx hb hts hi5 hown hK hP 0 rfl rfl 3 (by decide) (hts (.fieldLink RX5 16 "InvaderBoardModel" "reg" "[I") (by decide +kernel)) (fun _ h9 => h9) rfl dX5_turn_1 ?_
  refine lv_bipush (v := 7) hx hb dX5_turn_4 (by decide) ?_
  refine va_iald (f := a 2) hx hb hK hP 3 0 rfl rfl (by unfold vp_in; decide) dX5_turn_6 ?_
  refine lv_istore_n (lv' := [(2, .int _), (0, .ref _), (1, .int _)]) hx hb dX5_turn_7 rfl hl (by decide) rfl (fun ls hl => ?_)
  refine lv_iload_n hx hb dX5_turn_8 rfl (lv_at hl 2 rfl) ?_
  refine lv_if_eq (tgt := 17) hx hb dX5_turn_9 (by decide) (fun c_1 => ?_) (fun c_1 => ?_)
  · refine lv_aload_n hx hb dX5_turn_17 rfl (lv_at hl 1 rfl) ?_
    refine va_get (ci := 5) (v := .ref (o 23)) (C := RX5) (T := TX5) (N := 24) hx hb hts hi5 hown hK hP 0 rfl rfl 3 (by decide) (hts (.fieldLink RX5 16 "InvaderBoardModel" "reg" "[I") (by decide +kernel)) (fun _ h9 => h9) rfl dX5_turn_18 ?_
    refine lv_bipush (v := 7) hx hb dX5_turn_21 (by decide) ?_
    refine lv_iload_n hx hb dX5_turn_23 rfl (lv_at hl 0 rfl) ?_
    refine lv_iconst (v := 1) hx hb dX5_turn_24 (by decide) ?_
    refine lv_ishl hx hb dX5_turn_25 ?_
    refine lv_sipush (v := 254) hx hb dX5_turn_26 (by decide) ?_
    refine lv_iand hx hb dX5_turn_29 ?_
    refine lv_iload_n hx hb dX5_turn_30 rfl (lv_at hl 2 rfl) ?_
    refine lv_if_ne (tgt := 41) hx hb dX5_turn_31 (by decide) (fun c_2 => ?_) (fun c_2 => ?_)
    · refine lv_aload_n hx hb dX5_turn_41 rfl (lv_at hl 1 rfl) ?_
      refine va_get (ci := 5) (v := .int (f 16)) (C := RX5) (T := TX5) (N := 24) hx hb hts hi5 hown hK hP 0 rfl rfl 10 (by decide) (hts (.fieldLink RX5 66 "InvaderBoardModel" "carry" "I") (by decide +kernel)) (fun _ h9 => h9) rfl dX5_turn_42 ?_
      refine lv_ior hx hb dX5_turn_45 ?_
      refine pu_R_a2 hx hb hK hP hD hS (by unfold vp_in; decide) dX5_turn_46 (fun H locs hP hD hS => ?_)
      refine lv_aload_n hx hb dX5_turn_47 rfl (lv_at hl 1 rfl) ?_
      refine lv_iload_n hx hb dX5_turn_48 rfl (lv_at hl 0 rfl) ?_
      refine lv_bipush (v := 7) hx hb dX5_turn_49 (by decide) ?_
      refine lv_ishr hx hb dX5_turn_51 ?_
      refine pu_R_f16 (v := ((a 2) (7 : Int32).toNatClampNeg) >>> ((7 : Int32) &&& 31)) hx hb hts hi5 hown hK hP hD hS (hts (.fieldLink RX5 66 "InvaderBoardModel" "carry" "I") (by decide +kernel)) dX5_turn_52 (fun H locs hP hD hS => ?_)
      refine lv_goto (tgt := 161) hx hb dX5_turn_55 (by decide) ?_
      have hF : rTurn f a p1 = (upd f 16 (((a 2) (7 : Int32).toNatClampNeg) >>> ((7 : Int32) &&& 31)), ua a 2 (upd (a 2) (7 : Int32).toNatClampNeg (((((a 2) (7 : Int32).toNatClampNeg) <<< ((1 : Int32) &&& 31)) &&& (254 : Int32)) ||| (f 16)))) := by simp only [rTurn, if_pos c_1, if_neg c_2]
      rw [hF]
      exact KC.retv hx hb hr hlocks hK hP hD hS dX5_turn_161
    · refine lv_iload_n hx hb dX5_turn_34 rfl (lv_at hl 0 rfl) ?_
      refine lv_bipush (v := 7) hx hb dX5_turn_35 (by decide) ?_
      refine lv_ishr hx hb dX5_turn_37 ?_
      refine lv_goto (tgt := 45) hx hb dX5_turn_38 (by decide) ?_
      refine lv_ior hx hb dX5_turn_45 ?_
      refine pu_R_a2 hx hb hK hP hD hS (by unfold vp_in; decide) dX5_turn_46 (fun H locs hP hD hS => ?_)
      refine lv_aload_n hx hb dX5_turn_47 rfl (lv_at hl 1 rfl) ?_
      refine lv_iload_n hx hb dX5_turn_48 rfl (lv_at hl 0 rfl) ?_
      refine lv_bipush (v := 7) hx hb dX5_turn_49 (by decide) ?_
      refine lv_ishr hx hb dX5_turn_51 ?_
      refine pu_R_f16 (v := ((a 2) (7 : Int32).toNatClampNeg) >>> ((7 : Int32) &&& 31)) hx hb hts hi5 hown hK hP hD hS (hts (.fieldLink RX5 66 "InvaderBoardModel" "carry" "I") (by decide +kernel)) dX5_turn_52 (fun H locs hP hD hS => ?_)
      refine lv_goto (tgt := 161) hx hb dX5_turn_55 (by decide) ?_
      have hF : rTurn f a p1 = (upd f 16 (((a 2) (7 : Int32).toNatClampNeg) >>> ((7 : Int32) &&& 31)), ua a 2 (upd (a 2) (7 : Int32).toNatClampNeg (((((a 2) (7 : Int32).toNatClampNeg) <<< ((1 : Int32) &&& 31)) &&& (254 : Int32)) ||| (((a 2) (7 : Int32).toNatClampNeg) >>> ((7 : Int32) &&& 31))))) := by simp only [rTurn, if_pos c_1, if_pos c_2]
      rw [hF]
      exact KC.retv hx hb hr hlocks hK hP hD hS dX5_turn_161
  · refine lv_iload_n hx hb dX5_turn_12 rfl (lv_at hl 2 rfl) ?_
    refine lv_iconst (v := 2) hx hb dX5_turn_13 (by decide) ?_
    refine lv_icmp_ne (tgt := 58) hx hb dX5_turn_14 (by decide) (fun c_3 => ?_) (fun c_3 => ?_)
    · refine lv_iload_n hx hb dX5_turn_58 rfl (lv_at hl 2 rfl) ?_
      refine lv_iconst (v := 1) hx hb dX5_turn_59 (by decide) ?_
      refine lv_icmp_eq (tgt := 68) hx hb dX5_turn_60 (by decide) (fun c_4 => ?_) (fun c_4 => ?_)
      · refine lv_aload_n hx hb dX5_turn_68 rfl (lv_at hl 1 rfl) ?_
        refine va_get (ci := 5) (v := .ref (o 23)) (C := RX5) (T := TX5) (N := 24) hx hb hts hi5 hown hK hP 0 rfl rfl 3 (by decide) (hts (.fieldLink RX5 16 "InvaderBoardModel" "reg" "[I") (by decide +kernel)) (fun _ h9 => h9) rfl dX5_turn_69 ?_
        refine lv_bipush (v := 7) hx hb dX5_turn_72 (by decide) ?_
        refine lv_iload_n hx hb dX5_turn_74 rfl (lv_at hl 0 rfl) ?_
        refine lv_iconst (v := 1) hx hb dX5_turn_75 (by decide) ?_
        refine lv_ishr hx hb dX5_turn_76 ?_
        refine lv_iload_n hx hb dX5_turn_77 rfl (lv_at hl 2 rfl) ?_
        refine lv_iconst (v := 1) hx hb dX5_turn_78 (by decide) ?_
        refine lv_icmp_ne (tgt := 88) hx hb dX5_turn_79 (by decide) (fun c_5 => ?_) (fun c_5 => ?_)
        · refine lv_aload_n hx hb dX5_turn_88 rfl (lv_at hl 1 rfl) ?_
          refine va_get (ci := 5) (v := .int (f 16)) (C := RX5) (T := TX5) (N := 24) hx hb hts hi5 hown hK hP 0 rfl rfl 10 (by decide) (hts (.fieldLink RX5 66 "InvaderBoardModel" "carry" "I") (by decide +kernel)) (fun _ h9 => h9) rfl dX5_turn_89 ?_
          refine lv_bipush (v := 7) hx hb dX5_turn_92 (by decide) ?_
          refine lv_ishl hx hb dX5_turn_94 ?_
          refine lv_ior hx hb dX5_turn_95 ?_
          refine pu_R_a2 hx hb hK hP hD hS (by unfold vp_in; decide) dX5_turn_96 (fun H locs hP hD hS => ?_)
          refine lv_aload_n hx hb dX5_turn_97 rfl (lv_at hl 1 rfl) ?_
          refine lv_iload_n hx hb dX5_turn_98 rfl (lv_at hl 0 rfl) ?_
          refine lv_iconst (v := 1) hx hb dX5_turn_99 (by decide) ?_
          refine lv_iand hx hb dX5_turn_100 ?_
          refine pu_R_f16 (v := ((a 2) (7 : Int32).toNatClampNeg) &&& (1 : Int32)) hx hb hts hi5 hown hK hP hD hS (hts (.fieldLink RX5 66 "InvaderBoardModel" "carry" "I") (by decide +kernel)) dX5_turn_101 (fun H locs hP hD hS => ?_)
          refine lv_goto (tgt := 161) hx hb dX5_turn_104 (by decide) ?_
          have hF : rTurn f a p1 = (upd f 16 (((a 2) (7 : Int32).toNatClampNeg) &&& (1 : Int32)), ua a 2 (upd (a 2) (7 : Int32).toNatClampNeg ((((a 2) (7 : Int32).toNatClampNeg) >>> ((1 : Int32) &&& 31)) ||| ((f 16) <<< ((7 : Int32) &&& 31))))) := by simp only [rTurn, if_neg c_1, if_neg c_3, if_pos c_4, if_neg c_5]
          rw [hF]
          exact KC.retv hx hb hr hlocks hK hP hD hS dX5_turn_161
        · refine lv_iload_n hx hb dX5_turn_82 rfl (lv_at hl 0 rfl) ?_
          refine lv_iconst (v := 1) hx hb dX5_turn_83 (by decide) ?_
          refine lv_iand hx hb dX5_turn_84 ?_
          refine lv_goto (tgt := 92) hx hb dX5_turn_85 (by decide) ?_
          refine lv_bipush (v := 7) hx hb dX5_turn_92 (by decide) ?_
          refine lv_ishl hx hb dX5_turn_94 ?_
          refine lv_ior hx hb dX5_turn_95 ?_
          refine pu_R_a2 hx hb hK hP hD hS (by unfold vp_in; decide) dX5_turn_96 (fun H locs hP hD hS => ?_)
          refine lv_aload_n hx hb dX5_turn_97 rfl (lv_at hl 1 rfl) ?_
          refine lv_iload_n hx hb dX5_turn_98 rfl (lv_at hl 0 rfl) ?_
          refine lv_iconst (v := 1) hx hb dX5_turn_99 (by decide) ?_
          refine lv_iand hx hb dX5_turn_100 ?_
          refine pu_R_f16 (v := ((a 2) (7 : Int32).toNatClampNeg) &&& (1 : Int32)) hx hb hts hi5 hown hK hP hD hS (hts (.fieldLink RX5 66 "InvaderBoardModel" "carry" "I") (by decide +kernel)) dX5_turn_101 (fun H locs hP hD hS => ?_)
          refine lv_goto (tgt := 161) hx hb dX5_turn_104 (by decide) ?_
          have hF : rTurn f a p1 = (upd f 16 (((a 2) (7 : Int32).toNatClampNeg) &&& (1 : Int32)), ua a 2 (upd (a 2) (7 : Int32).toNatClampNeg ((((a 2) (7 : Int32).toNatClampNeg) >>> ((1 : Int32) &&& 31)) ||| ((((a 2) (7 : Int32).toNatClampNeg) &&& (1 : Int32)) <<< ((7 : Int32) &&& 31))))) := by simp only [rTurn, if_neg c_1, if_neg c_3, if_pos c_4, if_pos c_5]
          rw [hF]
          exact KC.retv hx hb hr hlocks hK hP hD hS dX5_turn_161
      · refine lv_iload_n hx hb dX5_turn_63 rfl (lv_at hl 2 rfl) ?_
        refine lv_iconst (v := 3) hx hb dX5_turn_64 (by decide) ?_
        refine lv_icmp_ne (tgt := 107) hx hb dX5_turn_65 (by decide) (fun c_6 => ?_) (fun c_6 => ?_)
        · refine lv_iload_n hx hb dX5_turn_107 rfl (lv_at hl 2 rfl) ?_
          refine lv_iconst (v := 4) hx hb dX5_turn_108 (by decide) ?_
          refine lv_icmp_ne (tgt := 119) hx hb dX5_turn_109 (by decide) (fun c_7 => ?_) (fun c_7 => ?_)
          · refine lv_iload_n hx hb dX5_turn_119 rfl (lv_at hl 2 rfl) ?_
            refine lv_iconst (v := 5) hx hb dX5_turn_120 (by decide) ?_
            refine lv_icmp_ne (tgt := 141) hx hb dX5_turn_121 (by decide) (fun c_8 => ?_) (fun c_8 => ?_)
            · refine lv_aload_n hx hb dX5_turn_141 rfl (lv_at hl 1 rfl) ?_
              refine lv_iload_n hx hb dX5_turn_142 rfl (lv_at hl 2 rfl) ?_
              refine lv_bipush (v := 6) hx hb dX5_turn_143 (by decide) ?_
              refine lv_icmp_ne (tgt := 152) hx hb dX5_turn_145 (by decide) (fun c_9 => ?_) (fun c_9 => ?_)
              · refine lv_iconst (v := 1) hx hb dX5_turn_152 (by decide) ?_
                refine lv_aload_n hx hb dX5_turn_153 rfl (lv_at hl 1 rfl) ?_
                refine va_get (ci := 5) (v := .int (f 16)) (C := RX5) (T := TX5) (N := 24) hx hb hts hi5 hown hK hP 0 rfl rfl 10 (by decide) (hts (.fieldLink RX5 66 "InvaderBoardModel" "carry" "I") (by decide +kernel)) (fun _ h9 => h9) rfl dX5_turn_154 ?_
                refine lv_isub hx hb dX5_turn_157 ?_
                refine pu_R_f16 (v := (1 : Int32) - (f 16)) hx hb hts hi5 hown hK hP hD hS (hts (.fieldLink RX5 66 "InvaderBoardModel" "carry" "I") (by decide +kernel)) dX5_turn_158 (fun H locs hP hD hS => ?_)
                have hF : rTurn f a p1 = (upd f 16 ((1 : Int32) - (f 16)), a) := by simp only [rTurn, if_neg c_1, if_neg c_3, if_neg c_4, if_neg c_6, if_neg c_7, if_neg c_8, if_neg c_9]
                rw [hF]
                exact KC.retv hx hb hr hlocks hK hP hD hS dX5_turn_161
              · refine lv_iconst (v := 1) hx hb dX5_turn_148 (by decide) ?_
                refine lv_goto (tgt := 158) hx hb dX5_turn_149 (by decide) ?_
                refine pu_R_f16 (v := (1 : Int32)) hx hb hts hi5 hown hK hP hD hS (hts (.fieldLink RX5 66 "InvaderBoardModel" "carry" "I") (by decide +kernel)) dX5_turn_158 (fun H locs hP hD hS => ?_)
                have hF : rTurn f a p1 = (upd f 16 (1 : Int32), a) := by simp only [rTurn, if_neg c_1, if_neg c_3, if_neg c_4, if_neg c_6, if_neg c_7, if_neg c_8, if_pos c_9]
                rw [hF]
                exact KC.retv hx hb hr hlocks hK hP hD hS dX5_turn_161
            · refine lv_aload_n hx hb dX5_turn_124 rfl (lv_at hl 1 rfl) ?_
              refine va_get (ci := 5) (v := .ref (o 23)) (C := RX5) (T := TX5) (N := 24) hx hb hts hi5 hown hK hP 0 rfl rfl 3 (by decide) (hts (.fieldLink RX5 16 "InvaderBoardModel" "reg" "[I") (by decide +kernel)) (fun _ h9 => h9) rfl dX5_turn_125 ?_
              refine lv_bipush (v := 7) hx hb dX5_turn_128 (by decide) ?_
              refine lv_iload_n hx hb dX5_turn_130 rfl (lv_at hl 0 rfl) ?_
              refine lv_iconst (v := -1) hx hb dX5_turn_131 (by decide) ?_
              refine lv_ixor hx hb dX5_turn_132 ?_
              refine lv_sipush (v := 255) hx hb dX5_turn_133 (by decide) ?_
              refine lv_iand hx hb dX5_turn_136 ?_
              refine pu_R_a2 hx hb hK hP hD hS (by unfold vp_in; decide) dX5_turn_137 (fun H locs hP hD hS => ?_)
              refine lv_goto (tgt := 161) hx hb dX5_turn_138 (by decide) ?_
              have hF : rTurn f a p1 = (f, ua a 2 (upd (a 2) (7 : Int32).toNatClampNeg ((((a 2) (7 : Int32).toNatClampNeg) ^^^ (-1 : Int32)) &&& (255 : Int32)))) := by simp only [rTurn, if_neg c_1, if_neg c_3, if_neg c_4, if_neg c_6, if_neg c_7, if_pos c_8]
              rw [hF]
              exact KC.retv hx hb hr hlocks hK hP hD hS dX5_turn_161
          · refine lv_aload_n hx hb dX5_turn_112 rfl (lv_at hl 1 rfl) ?_
            obtain ⟨f_10, a_10, hB_10⟩ : ∃ (f_10 : Nat → Int32) (a_10 : Nat → Nat → Int32), rAdjust f a = (f_10, a_10) := ⟨_, _, rfl⟩
            have kc_10 := kX5_adjust l D cI o f a
            rw [hB_10] at kc_10
            refine KC.callv (ci := 5) (rest := []) (wt := wR cI o f_10 a_10) (kc_10) (cwV 0 hts gX5_turn_X5_adjust rfl rfl rfl (by decide +kernel) ⟨Nat.le_of_ble_eq_true rfl, Nat.le_of_ble_eq_true rfl⟩) ⟨hx, hb, hml, hown, hts⟩ hK hP hD hS hA rfl rfl rfl [0, 1, 2, 3, 4, 5, 6] [] [0, 1, 2, 3, 4, 5, 6] (by decide) rfl (wr := []) rfl (by decide) (by decide) (by decide) rfl rfl hl.1 rfl (Nat.le_of_ble_eq_true rfl) dX5_turn_113 ⟨Nat.zero_le _, Nat.zero_le _⟩ (fun H locs hP hD hS => ?_)
            refine lv_goto (tgt := 161) hx hb dX5_turn_116 (by decide) ?_
            have hF : rTurn f a p1 = (f_10, a_10) := by simp only [rTurn, if_neg c_1, if_neg c_3, if_neg c_4, if_neg c_6, if_pos c_7, hB_10]
            rw [hF]
            exact KC.retv hx hb hr hlocks hK hP hD hS dX5_turn_161
        · refine lv_aload_n hx hb dX5_turn_68 rfl (lv_at hl 1 rfl) ?_
          refine va_get (ci := 5) (v := .ref (o 23)) (C := RX5) (T := TX5) (N := 24) hx hb hts hi5 hown hK hP 0 rfl rfl 3 (by decide) (hts (.fieldLink RX5 16 "InvaderBoardModel" "reg" "[I") (by decide +kernel)) (fun _ h9 => h9) rfl dX5_turn_69 ?_
          refine lv_bipush (v := 7) hx hb dX5_turn_72 (by decide) ?_
          refine lv_iload_n hx hb dX5_turn_74 rfl (lv_at hl 0 rfl) ?_
          refine lv_iconst (v := 1) hx hb dX5_turn_75 (by decide) ?_
          refine lv_ishr hx hb dX5_turn_76 ?_
          refine lv_iload_n hx hb dX5_turn_77 rfl (lv_at hl 2 rfl) ?_
          refine lv_iconst (v := 1) hx hb dX5_turn_78 (by decide) ?_
          refine lv_icmp_ne (tgt := 88) hx hb dX5_turn_79 (by decide) (fun c_11 => ?_) (fun c_11 => ?_)
          · refine lv_aload_n hx hb dX5_turn_88 rfl (lv_at hl 1 rfl) ?_
            refine va_get (ci := 5) (v := .int (f 16)) (C := RX5) (T := TX5) (N := 24) hx hb hts hi5 hown hK hP 0 rfl rfl 10 (by decide) (hts (.fieldLink RX5 66 "InvaderBoardModel" "carry" "I") (by decide +kernel)) (fun _ h9 => h9) rfl dX5_turn_89 ?_
            refine lv_bipush (v := 7) hx hb dX5_turn_92 (by decide) ?_
            refine lv_ishl hx hb dX5_turn_94 ?_
            refine lv_ior hx hb dX5_turn_95 ?_
            refine pu_R_a2 hx hb hK hP hD hS (by unfold vp_in; decide) dX5_turn_96 (fun H locs hP hD hS => ?_)
            refine lv_aload_n hx hb dX5_turn_97 rfl (lv_at hl 1 rfl) ?_
            refine lv_iload_n hx hb dX5_turn_98 rfl (lv_at hl 0 rfl) ?_
            refine lv_iconst (v := 1) hx hb dX5_turn_99 (by decide) ?_
            refine lv_iand hx hb dX5_turn_100 ?_
            refine pu_R_f16 (v := ((a 2) (7 : Int32).toNatClampNeg) &&& (1 : Int32)) hx hb hts hi5 hown hK hP hD hS (hts (.fieldLink RX5 66 "InvaderBoardModel" "carry" "I") (by decide +kernel)) dX5_turn_101 (fun H locs hP hD hS => ?_)
            refine lv_goto (tgt := 161) hx hb dX5_turn_104 (by decide) ?_
            have hF : rTurn f a p1 = (upd f 16 (((a 2) (7 : Int32).toNatClampNeg) &&& (1 : Int32)), ua a 2 (upd (a 2) (7 : Int32).toNatClampNeg ((((a 2) (7 : Int32).toNatClampNeg) >>> ((1 : Int32) &&& 31)) ||| ((f 16) <<< ((7 : Int32) &&& 31))))) := by simp only [rTurn, if_neg c_1, if_neg c_3, if_neg c_4, if_pos c_6, if_neg c_11]
            rw [hF]
            exact KC.retv hx hb hr hlocks hK hP hD hS dX5_turn_161
          · refine lv_iload_n hx hb dX5_turn_82 rfl (lv_at hl 0 rfl) ?_
            refine lv_iconst (v := 1) hx hb dX5_turn_83 (by decide) ?_
            refine lv_iand hx hb dX5_turn_84 ?_
            refine lv_goto (tgt := 92) hx hb dX5_turn_85 (by decide) ?_
            refine lv_bipush (v := 7) hx hb dX5_turn_92 (by decide) ?_
            refine lv_ishl hx hb dX5_turn_94 ?_
            refine lv_ior hx hb dX5_turn_95 ?_
            refine pu_R_a2 hx hb hK hP hD hS (by unfold vp_in; decide) dX5_turn_96 (fun H locs hP hD hS => ?_)
            refine lv_aload_n hx hb dX5_turn_97 rfl (lv_at hl 1 rfl) ?_
            refine lv_iload_n hx hb dX5_turn_98 rfl (lv_at hl 0 rfl) ?_
            refine lv_iconst (v := 1) hx hb dX5_turn_99 (by decide) ?_
            refine lv_iand hx hb dX5_turn_100 ?_
            refine pu_R_f16 (v := ((a 2) (7 : Int32).toNatClampNeg) &&& (1 : Int32)) hx hb hts hi5 hown hK hP hD hS (hts (.fieldLink RX5 66 "InvaderBoardModel" "carry" "I") (by decide +kernel)) dX5_turn_101 (fun H locs hP hD hS => ?_)
            refine lv_goto (tgt := 161) hx hb dX5_turn_104 (by decide) ?_
            have hF : rTurn f a p1 = (upd f 16 (((a 2) (7 : Int32).toNatClampNeg) &&& (1 : Int32)), ua a 2 (upd (a 2) (7 : Int32).toNatClampNeg ((((a 2) (7 : Int32).toNatClampNeg) >>> ((1 : Int32) &&& 31)) ||| ((((a 2) (7 : Int32).toNatClampNeg) &&& (1 : Int32)) <<< ((7 : Int32) &&& 31))))) := by simp only [rTurn, if_neg c_1, if_neg c_3, if_neg c_4, if_pos c_6, if_pos c_11]
            rw [hF]
            exact KC.retv hx hb hr hlocks hK hP hD hS dX5_turn_161
    · refine lv_aload_n hx hb dX5_turn_17 rfl (lv_at hl 1 rfl) ?_
      refine va_get (ci := 5) (v := .ref (o 23)) (C := RX5) (T := TX5) (N := 24) hx hb hts hi5 hown hK hP 0 rfl rfl 3 (by decide) (hts (.fieldLink RX5 16 "InvaderBoardModel" "reg" "[I") (by decide +kernel)) (fun _ h9 => h9) rfl dX5_turn_18 ?_
      refine lv_bipush (v := 7) hx hb dX5_turn_21 (by decide) ?_
      refine lv_iload_n hx hb dX5_turn_23 rfl (lv_at hl 0 rfl) ?_
      refine lv_iconst (v := 1) hx hb dX5_turn_24 (by decide) ?_
      refine lv_ishl hx hb dX5_turn_25 ?_
      refine lv_sipush (v := 254) hx hb dX5_turn_26 (by decide) ?_
      refine lv_iand hx hb dX5_turn_29 ?_
      refine lv_iload_n hx hb dX5_turn_30 rfl (lv_at hl 2 rfl) ?_
      refine lv_if_ne (tgt := 41) hx hb dX5_turn_31 (by decide) (fun c_12 => ?_) (fun c_12 => ?_)
      · refine lv_aload_n hx hb dX5_turn_41 rfl (lv_at hl 1 rfl) ?_
        refine va_get (ci := 5) (v := .int (f 16)) (C := RX5) (T := TX5) (N := 24) hx hb hts hi5 hown hK hP 0 rfl rfl 10 (by decide) (hts (.fieldLink RX5 66 "InvaderBoardModel" "carry" "I") (by decide +kernel)) (fun _ h9 => h9) rfl dX5_turn_42 ?_
        refine lv_ior hx hb dX5_turn_45 ?_
        refine pu_R_a2 hx hb hK hP hD hS (by unfold vp_in; decide) dX5_turn_46 (fun H locs hP hD hS => ?_)
        refine lv_aload_n hx hb dX5_turn_47 rfl (lv_at hl 1 rfl) ?_
        refine lv_iload_n hx hb dX5_turn_48 rfl (lv_at hl 0 rfl) ?_
        refine lv_bipush (v := 7) hx hb dX5_turn_49 (by decide) ?_
        refine lv_ishr hx hb dX5_turn_51 ?_
        refine pu_R_f16 (v := ((a 2) (7 : Int32).toNatClampNeg) >>> ((7 : Int32) &&& 31)) hx hb hts hi5 hown hK hP hD hS (hts (.fieldLink RX5 66 "InvaderBoardModel" "carry" "I") (by decide +kernel)) dX5_turn_52 (fun H locs hP hD hS => ?_)
        refine lv_goto (tgt := 161) hx hb dX5_turn_55 (by decide) ?_
        have hF : rTurn f a p1 = (upd f 16 (((a 2) (7 : Int32).toNatClampNeg) >>> ((7 : Int32) &&& 31)), ua a 2 (upd (a 2) (7 : Int32).toNatClampNeg (((((a 2) (7 : Int32).toNatClampNeg) <<< ((1 : Int32) &&& 31)) &&& (254 : Int32)) ||| (f 16)))) := by simp only [rTurn, if_neg c_1, if_pos c_3, if_neg c_12]
        rw [hF]
        exact KC.retv hx hb hr hlocks hK hP hD hS dX5_turn_161
      · refine lv_iload_n hx hb dX5_turn_34 rfl (lv_at hl 0 rfl) ?_
        refine lv_bipush (v := 7) hx hb dX5_turn_35 (by decide) ?_
        refine lv_ishr hx hb dX5_turn_37 ?_
        refine lv_goto (tgt := 45) hx hb dX5_turn_38 (by decide) ?_
        refine lv_ior hx hb dX5_turn_45 ?_
        refine pu_R_a2 hx hb hK hP hD hS (by unfold vp_in; decide) dX5_turn_46 (fun H locs hP hD hS => ?_)
        refine lv_aload_n hx hb dX5_turn_47 rfl (lv_at hl 1 rfl) ?_
        refine lv_iload_n hx hb dX5_turn_48 rfl (lv_at hl 0 rfl) ?_
        refine lv_bipush (v := 7) hx hb dX5_turn_49 (by decide) ?_
        refine lv_ishr hx hb dX5_turn_51 ?_
        refine pu_R_f16 (v := ((a 2) (7 : Int32).toNatClampNeg) >>> ((7 : Int32) &&& 31)) hx hb hts hi5 hown hK hP hD hS (hts (.fieldLink RX5 66 "InvaderBoardModel" "carry" "I") (by decide +kernel)) dX5_turn_52 (fun H locs hP hD hS => ?_)
        refine lv_goto (tgt := 161) hx hb dX5_turn_55 (by decide) ?_
        have hF : rTurn f a p1 = (upd f 16 (((a 2) (7 : Int32).toNatClampNeg) >>> ((7 : Int32) &&& 31)), ua a 2 (upd (a 2) (7 : Int32).toNatClampNeg (((((a 2) (7 : Int32).toNatClampNeg) <<< ((1 : Int32) &&& 31)) &&& (254 : Int32)) ||| (((a 2) (7 : Int32).toNatClampNeg) >>> ((7 : Int32) &&& 31))))) := by simp only [rTurn, if_neg c_1, if_pos c_3, if_pos c_12]
        rw [hF]
        exact KC.retv hx hb hr hlocks hK hP hD hS dX5_turn_161
def rMoved (f : Nat → Int32) (a : Nat → Nat → Int32) (p1 : Int32) : Int32 × (Nat → Int32) × (Nat → Nat → Int32) :=
  if (4 : Int32) ≤ p1 then (match rNextTwo f a with
    | (r_2, f_2) => if p1 = (4 : Int32) then if (6 : Int32) ≤ p1 then ((13 : Int32), f_2, ua (ua a 1 (rWrite f_2 a r_2 ((a 2) (5 : Int32).toNatClampNeg))) 1 (rWrite f_2 (ua a 1 (rWrite f_2 a r_2 ((a 2) (5 : Int32).toNatClampNeg))) ((r_2 + (1 : Int32)) &&& (65535 : Int32)) ((a 2) (4 : Int32).toNatClampNeg)))
        else ((16 : Int32), f_2, ua (ua a 1 (rWrite f_2 a r_2 ((a 2) (5 : Int32).toNatClampNeg))) 1 (rWrite f_2 (ua a 1 (rWrite f_2 a r_2 ((a 2) (5 : Int32).toNatClampNeg))) ((r_2 + (1 : Int32)) &&& (65535 : Int32)) ((a 2) (4 : Int32).toNatClampNeg)))
      else if p1 = (5 : Int32) then if (6 : Int32) ≤ p1 then ((13 : Int32), f_2, ua (ua a 2 (upd (a 2) (5 : Int32).toNatClampNeg (rRead f_2 a r_2))) 2 (upd (upd (a 2) (5 : Int32).toNatClampNeg (rRead f_2 a r_2)) (4 : Int32).toNatClampNeg (rRead f_2 (ua a 2 (upd (a 2) (5 : Int32).toNatClampNeg (rRead f_2 a r_2))) ((r_2 + (1 : Int32)) &&& (65535 : Int32)))))
          else ((16 : Int32), f_2, ua (ua a 2 (upd (a 2) (5 : Int32).toNatClampNeg (rRead f_2 a r_2))) 2 (upd (upd (a 2) (5 : Int32).toNatClampNeg (rRead f_2 a r_2)) (4 : Int32).toNatClampNeg (rRead f_2 (ua a 2 (upd (a 2) (5 : Int32).toNatClampNeg (rRead f_2 a r_2))) ((r_2 + (1 : Int32)) &&& (65535 : Int32)))))
        else if p1 = (6 : Int32) then if (6 : Int32) ≤ p1 then ((13 : Int32), f_2, ua a 1 (rWrite f_2 a r_2 ((a 2) (7 : Int32).toNatClampNeg)))
            else ((16 : Int32), f_2, ua a 1 (rWrite f_2 a r_2 ((a 2) (7 : Int32).toNatClampNeg)))
          else if (6 : Int32) ≤ p1 then ((13 : Int32), f_2, ua a 2 (upd (a 2) (7 : Int32).toNatClampNeg (rRead f_2 a r_2)))
            else ((16 : Int32), f_2, ua a 2 (upd (a 2) (7 : Int32).toNatClampNeg (rRead f_2 a r_2))))
  else if p1 &&& (1 : Int32) = 0 then ((7 : Int32), f, ua a 1 (rWrite f a (rPair f a (p1 >>> ((1 : Int32) &&& 31))) ((a 2) (7 : Int32).toNatClampNeg)))
    else ((7 : Int32), f, ua a 2 (upd (a 2) (7 : Int32).toNatClampNeg (rRead f a (rPair f a (p1 >>> ((1 : Int32) &&& 31))))))
set_option maxHeartbeats 4000000 in
set_option maxRecDepth 100000 in
theorem kX5_moved (l : Launch) (D : va_G) (cI : ClassId) (o : Nat → Nat) (f : Nat → Int32) (a : Nat → Nat → Int32) (p1 : Int32) (h1 : vp_in p1 8) : KC l yX5_moved wsX5_moved 3 [.ref (o 20), .int p1] D cI (wR cI o f a) (wR cI o ((rMoved f a p1).2.1) ((rMoved f a p1).2.2)) (some (.int (rMoved f a p1).1)) := by
  refine KC.of (cc := cX5_moved) (maxL := 3) (by decide) rfl (Nat.le_of_ble_eq_true rfl) ?_
  intro p e s m below meth c A hx hb hr hts hown hlocks hml hK hP hD hS hA ls hl
  have hl : lv_has ls 3 [(0, .ref (o 20)), (1, .int p1)] := hl
  have hown : s.vm.findClass RX5 = some m.cls := hown
  have hi5 : ∀ w ∈ u_ws RX5 TX5 24, w ∈ wsX5_moved := by decide +kernel
  refine lv_iload_n hx hb dX5_moved_0 rfl (lv_at hl 1 rfl) ?_
  refine lv_iconst (v := 4) hx hb dX5_moved_1 (by decide) ?_
  refine lv_icmp_ge (tgt := 49) hx hb dX5_moved_2 (by decide) (fun c_1 => ?_) (fun c_1 => ?_)
  · refine lv_aload_n hx hb dX5_moved_49 rfl (lv_at hl 0 rfl) ?_
    obtain ⟨r_2, f_2, hB_2⟩ : ∃ (r_2 : Int32) (f_2 : Nat → Int32), rNextTwo f a = (r_2, f_2) := ⟨_, _, rfl⟩
    have kc_2 := kX5_nextTwo l D cI o f a
    rw [hB_2] at kc_2
    refine KC.calli (ci := 5) (rest := []) (wt := wR cI o f_2 a) (kc_2) (cwV 0 hts gX5_moved_X5_nextTwo rfl rfl rfl (by decide +kernel) ⟨Nat.le_of_ble_eq_true rfl, Nat.le_of_ble_eq_true rfl⟩) ⟨hx, hb, hml, hown, hts⟩ hK hP hD hS hA rfl rfl rfl [0, 1, 2, 3, 4, 5, 6] [] [0, 1, 2, 3, 4, 5, 6] (by decide) rfl (wr := []) rfl (by decide) (by decide) (by decide) rfl rfl hl.1 rfl (Nat.le_of_ble_eq_true rfl) dX5_moved_50 ⟨Nat.zero_le _, Nat.zero_le _⟩ (fun H locs hP hD hS => ?_)
    refine lv_istore_n (lv' := [(2, .int _), (0, .ref _), (1, .int _)]) hx hb dX5_moved_53 rfl hl (by decide) rfl (fun ls hl => ?_)
    refine lv_iload_n hx hb dX5_moved_54 rfl (lv_at hl 2 rfl) ?_
    refine lv_iconst (v := 4) hx hb dX5_moved_55 (by decide) ?_
    refine lv_icmp_ne (tgt := 89) hx hb dX5_moved_56 (by decide) (fun c_3 => ?_) (fun c_3 => ?_)
    · refine lv_iload_n hx hb dX5_moved_89 rfl (lv_at hl 2 rfl) ?_
      refine lv_iconst (v := 5) hx hb dX5_moved_90 (by decide) ?_
      refine lv_icmp_ne (tgt := 124) hx hb dX5_moved_91 (by decide) (fun c_4 => ?_) (fun c_4 => ?_)
      · refine lv_iload_n hx hb dX5_moved_124 rfl (lv_at hl 2 rfl) ?_
        refine lv_bipush (v := 6) hx hb dX5_moved_125 (by decide) ?_
        refine lv_icmp_ne (tgt := 145) hx hb dX5_moved_127 (by decide) (fun c_5 => ?_) (fun c_5 => ?_)
        · refine lv_aload_n hx hb dX5_moved_145 rfl (lv_at hl 1 rfl) ?_
          refine va_get (ci := 5) (v := .ref (o 23)) (C := RX5) (T := TX5) (N := 24) hx hb hts hi5 hown hK hP 0 rfl rfl 3 (by decide) (hts (.fieldLink RX5 16 "InvaderBoardModel" "reg" "[I") (by decide +kernel)) (fun _ h9 => h9) rfl dX5_moved_146 ?_
          refine lv_bipush (v := 7) hx hb dX5_moved_149 (by decide) ?_
          refine lv_aload_n hx hb dX5_moved_151 rfl (lv_at hl 1 rfl) ?_
          refine lv_iload_n hx hb dX5_moved_152 rfl (lv_at hl 0 rfl) ?_
          refine KC.calli (ci := 5) (rest := [.int (7 : Int32), .ref (o 23)]) (wt := wR cI o f_2 a) (kX5_read l D cI o f_2 a r_2) (cwV 1 hts gX5_moved_X5_read rfl rfl rfl (by decide +kernel) ⟨Nat.le_of_ble_eq_true rfl, Nat.le_of_ble_eq_true rfl⟩) ⟨hx, hb, hml, hown, hts⟩ hK hP hD hS hA rfl rfl rfl [0, 1, 2, 3, 4, 5, 6] [] [0, 1, 2, 3, 4, 5, 6] (by decide) rfl (wr := []) rfl (by decide) (by decide) (by decide) rfl rfl hl.1 rfl (Nat.le_of_ble_eq_true rfl) dX5_moved_153 ⟨Nat.zero_le _, Nat.zero_le _⟩ (fun H locs hP hD hS => ?_)
          refine pu_R_a2 hx hb hK hP hD hS (by unfold vp_in; decide) dX5_moved_156 (fun H locs hP hD hS => ?_)
          refine lv_iload_n hx hb dX5_moved_157 rfl (lv_at hl 2 rfl) ?_
          refine lv_bipush (v := 6) hx hb dX5_moved_158 (by decide) ?_
          refine lv_icmp_ge (tgt := 168) hx hb dX5_moved_160 (by decide) (fun c_6 => ?_) (fun c_6 => ?_)
          · refine lv_bipush (v := 13) hx hb dX5_moved_168 (by decide) ?_
            have hF : rMoved f a p1 = ((13 : Int32), f_2, ua a 2 (upd (a 2) (7 : Int32).toNatClampNeg (rRead f_2 a r_2))) := by simp only [rMoved, if_pos c_1, hB_2, if_neg c_3, if_neg c_4, if_neg c_5, if_pos c_6]
            rw [hF]
            exact KC.reti hx hb hr hlocks hK hP hD hS dX5_moved_170 rfl
          · refine lv_bipush (v := 16) hx hb dX5_moved_163 (by decide) ?_
            refine lv_goto (tgt := 170) hx hb dX5_moved_165 (by decide) ?_
            have hF : rMoved f a p1 = ((16 : Int32), f_2, ua a 2 (upd (a 2) (7 : Int32).toNatClampNeg (rRead f_2 a r_2))) := by simp only [rMoved, if_pos c_1, hB_2, if_neg c_3, if_neg c_4, if_neg c_5, if_neg c_6]
            rw [hF]
            exact KC.reti hx hb hr hlocks hK hP hD hS dX5_moved_170 rfl
        · refine lv_aload_n hx hb dX5_moved_130 rfl (lv_at hl 1 rfl) ?_
          refine lv_iload_n hx hb dX5_moved_131 rfl (lv_at hl 0 rfl) ?_
          refine lv_aload_n hx hb dX5_moved_132 rfl (lv_at hl 1 rfl) ?_
          refine va_get (ci := 5) (v := .ref (o 23)) (C := RX5) (T := TX5) (N := 24) hx hb hts hi5 hown hK hP 0 rfl rfl 3 (by decide) (hts (.fieldLink RX5 16 "InvaderBoardModel" "reg" "[I") (by decide +kernel)) (fun _ h9 => h9) rfl dX5_moved_133 ?_
          refine lv_bipush (v := 7) hx hb dX5_moved_136 (by decide) ?_
          refine va_iald (f := a 2) hx hb hK hP 3 0 rfl rfl (by unfold vp_in; decide) dX5_moved_138 ?_
          refine KC.callv (ci := 5) (rest := []) (wt := wR cI o f_2 (ua a 1 (rWrite f_2 a r_2 ((a 2) (7 : Int32).toNatClampNeg)))) (kX5_write l D cI o f_2 a r_2 ((a 2) (7 : Int32).toNatClampNeg)) (cwV 2 hts gX5_moved_X5_write rfl rfl rfl (by decide +kernel) ⟨Nat.le_of_ble_eq_true rfl, Nat.le_of_ble_eq_true rfl⟩) ⟨hx, hb, hml, hown, hts⟩ hK hP hD hS hA rfl rfl rfl [0, 1, 2, 3, 4, 5, 6] [] [0, 1, 2, 3, 4, 5, 6] (by decide) rfl (wr := []) rfl (by decide) (by decide) (by decide) rfl rfl hl.1 rfl (Nat.le_of_ble_eq_true rfl) dX5_moved_139 ⟨Nat.zero_le _, Nat.zero_le _⟩ (fun H locs hP hD hS => ?_)
          refine lv_goto (tgt := 157) hx hb dX5_moved_142 (by decide) ?_
          refine lv_iload_n hx hb dX5_moved_157 rfl (lv_at hl 2 rfl) ?_
          refine lv_bipush (v := 6) hx hb dX5_moved_158 (by decide) ?_
          refine lv_icmp_ge (tgt := 168) hx hb dX5_moved_160 (by decide) (fun c_7 => ?_) (fun c_7 => ?_)
          · refine lv_bipush (v := 13) hx hb dX5_moved_168 (by decide) ?_
            have hF : rMoved f a p1 = ((13 : Int32), f_2, ua a 1 (rWrite f_2 a r_2 ((a 2) (7 : Int32).toNatClampNeg))) := by simp only [rMoved, if_pos c_1, hB_2, if_neg c_3, if_neg c_4, if_pos c_5, if_pos c_7]
            rw [hF]
            exact KC.reti hx hb hr hlocks hK hP hD hS dX5_moved_170 rfl
          · refine lv_bipush (v := 16) hx hb dX5_moved_163 (by decide) ?_
            refine lv_goto (tgt := 170) hx hb dX5_moved_165 (by decide) ?_
            have hF : rMoved f a p1 = ((16 : Int32), f_2, ua a 1 (rWrite f_2 a r_2 ((a 2) (7 : Int32).toNatClampNeg))) := by simp only [rMoved, if_pos c_1, hB_2, if_neg c_3, if_neg c_4, if_pos c_5, if_neg c_7]
            rw [hF]
            exact KC.reti hx hb hr hlocks hK hP hD hS dX5_moved_170 rfl
      · refine lv_aload_n hx hb dX5_moved_94 rfl (lv_at hl 1 rfl) ?_
        refine va_get (ci := 5) (v := .ref (o 23)) (C := RX5) (T := TX5) (N := 24) hx hb hts hi5 hown hK hP 0 rfl rfl 3 (by decide) (hts (.fieldLink RX5 16 "InvaderBoardModel" "reg" "[I") (by decide +kernel)) (fun _ h9 => h9) rfl dX5_moved_95 ?_
        refine lv_iconst (v := 5) hx hb dX5_moved_98 (by decide) ?_
        refine lv_aload_n hx hb dX5_moved_99 rfl (lv_at hl 1 rfl) ?_
        refine lv_iload_n hx hb dX5_moved_100 rfl (lv_at hl 0 rfl) ?_
        refine KC.calli (ci := 5) (rest := [.int (5 : Int32), .ref (o 23)]) (wt := wR cI o f_2 a) (kX5_read l D cI o f_2 a r_2) (cwV 1 hts gX5_moved_X5_read rfl rfl rfl (by decide +kernel) ⟨Nat.le_of_ble_eq_true rfl, Nat.le_of_ble_eq_true rfl⟩) ⟨hx, hb, hml, hown, hts⟩ hK hP hD hS hA rfl rfl rfl [0, 1, 2, 3, 4, 5, 6] [] [0, 1, 2, 3, 4, 5, 6] (by decide) rfl (wr := []) rfl (by decide) (by decide) (by decide) rfl rfl hl.1 rfl (Nat.le_of_ble_eq_true rfl) dX5_moved_101 ⟨Nat.zero_le _, Nat.zero_le _⟩ (fun H locs hP hD hS => ?_)
        refine pu_R_a2 hx hb hK hP hD hS (by unfold vp_in; decide) dX5_moved_104 (fun H locs hP hD hS => ?_)
        refine lv_aload_n hx hb dX5_moved_105 rfl (lv_at hl 1 rfl) ?_
        refine va_get (ci := 5) (v := .ref (o 23)) (C := RX5) (T := TX5) (N := 24) hx hb hts hi5 hown hK hP 0 rfl rfl 3 (by decide) (hts (.fieldLink RX5 16 "InvaderBoardModel" "reg" "[I") (by decide +kernel)) (fun _ h9 => h9) rfl dX5_moved_106 ?_
        refine lv_iconst (v := 4) hx hb dX5_moved_109 (by decide) ?_
        refine lv_aload_n hx hb dX5_moved_110 rfl (lv_at hl 1 rfl) ?_
        refine lv_iload_n hx hb dX5_moved_111 rfl (lv_at hl 0 rfl) ?_
        refine lv_iconst (v := 1) hx hb dX5_moved_112 (by decide) ?_
        refine lv_iadd hx hb dX5_moved_113 ?_
        refine lv_ldc (v := 65535) hx hb hown (hts (.constant RX5 32 65535) (by decide +kernel)) dX5_moved_114 ?_
        refine lv_iand hx hb dX5_moved_116 ?_
        refine KC.calli (ci := 5) (rest := [.int (4 : Int32), .ref (o 23)]) (wt := wR cI o f_2 (ua a 2 (upd (a 2) (5 : Int32).toNatClampNeg (rRead f_2 a r_2)))) (kX5_read l D cI o f_2 (ua a 2 (upd (a 2) (5 : Int32).toNatClampNeg (rRead f_2 a r_2))) ((r_2 + (1 : Int32)) &&& (65535 : Int32))) (cwV 1 hts gX5_moved_X5_read rfl rfl rfl (by decide +kernel) ⟨Nat.le_of_ble_eq_true rfl, Nat.le_of_ble_eq_true rfl⟩) ⟨hx, hb, hml, hown, hts⟩ hK hP hD hS hA rfl rfl rfl [0, 1, 2, 3, 4, 5, 6] [] [0, 1, 2, 3, 4, 5, 6] (by decide) rfl (wr := []) rfl (by decide) (by decide) (by decide) rfl rfl hl.1 rfl (Nat.le_of_ble_eq_true rfl) dX5_moved_117 ⟨Nat.zero_le _, Nat.zero_le _⟩ (fun H locs hP hD hS => ?_)
        refine pu_R_a2 hx hb hK hP hD hS (by unfold vp_in; decide) dX5_moved_120 (fun H locs hP hD hS => ?_)
        have hP : va_P D vwCl (wR cI o f_2 (ua (ua a 2 (upd (a 2) (5 : Int32).toNatClampNeg (rRead f_2 a r_2))) 2 (upd (upd (a 2) (5 : Int32).toNatClampNeg (rRead f_2 a r_2)) (4 : Int32).toNatClampNeg (rRead f_2 (ua a 2 (upd (a 2) (5 : Int32).toNatClampNeg (rRead f_2 a r_2))) ((r_2 + (1 : Int32)) &&& (65535 : Int32)))))) H := hP
        have hD : va_D A (wR cI o f_2 (ua (ua a 2 (upd (a 2) (5 : Int32).toNatClampNeg (rRead f_2 a r_2))) 2 (upd (upd (a 2) (5 : Int32).toNatClampNeg (rRead f_2 a r_2)) (4 : Int32).toNatClampNeg (rRead f_2 (ua a 2 (upd (a 2) (5 : Int32).toNatClampNeg (rRead f_2 a r_2))) ((r_2 + (1 : Int32)) &&& (65535 : Int32)))))) := hD
        refine lv_goto (tgt := 157) hx hb dX5_moved_121 (by decide) ?_
        refine lv_iload_n hx hb dX5_moved_157 rfl (lv_at hl 2 rfl) ?_
        refine lv_bipush (v := 6) hx hb dX5_moved_158 (by decide) ?_
        refine lv_icmp_ge (tgt := 168) hx hb dX5_moved_160 (by decide) (fun c_8 => ?_) (fun c_8 => ?_)
        · refine lv_bipush (v := 13) hx hb dX5_moved_168 (by decide) ?_
          have hF : rMoved f a p1 = ((13 : Int32), f_2, ua (ua a 2 (upd (a 2) (5 : Int32).toNatClampNeg (rRead f_2 a r_2))) 2 (upd (upd (a 2) (5 : Int32).toNatClampNeg (rRead f_2 a r_2)) (4 : Int32).toNatClampNeg (rRead f_2 (ua a 2 (upd (a 2) (5 : Int32).toNatClampNeg (rRead f_2 a r_2))) ((r_2 + (1 : Int32)) &&& (65535 : Int32))))) := by simp only [rMoved, if_pos c_1, hB_2, if_neg c_3, if_pos c_4, if_pos c_8]
          rw [hF]
          exact KC.reti hx hb hr hlocks hK hP hD hS dX5_moved_170 rfl
        · refine lv_bipush (v := 16) hx hb dX5_moved_163 (by decide) ?_
          refine lv_goto (tgt := 170) hx hb dX5_moved_165 (by decide) ?_
          have hF : rMoved f a p1 = ((16 : Int32), f_2, ua (ua a 2 (upd (a 2) (5 : Int32).toNatClampNeg (rRead f_2 a r_2))) 2 (upd (upd (a 2) (5 : Int32).toNatClampNeg (rRead f_2 a r_2)) (4 : Int32).toNatClampNeg (rRead f_2 (ua a 2 (upd (a 2) (5 : Int32).toNatClampNeg (rRead f_2 a r_2))) ((r_2 + (1 : Int32)) &&& (65535 : Int32))))) := by simp only [rMoved, if_pos c_1, hB_2, if_neg c_3, if_pos c_4, if_neg c_8]
          rw [hF]
          exact KC.reti hx hb hr hlocks hK hP hD hS dX5_moved_170 rfl
    · refine lv_aload_n hx hb dX5_moved_59 rfl (lv_at hl 1 rfl) ?_
      refine lv_iload_n hx hb dX5_moved_60 rfl (lv_at hl 0 rfl) ?_
      refine lv_aload_n hx hb dX5_moved_61 rfl (lv_at hl 1 rfl) ?_
      refine va_get (ci := 5) (v := .ref (o 23)) (C := RX5) (T := TX5) (N := 24) hx hb hts hi5 hown hK hP 0 rfl rfl 3 (by decide) (hts (.fieldLink RX5 16 "InvaderBoardModel" "reg" "[I") (by decide +kernel)) (fun _ h9 => h9) rfl dX5_moved_62 ?_
      refine lv_iconst (v := 5) hx hb dX5_moved_65 (by decide) ?_
      refine va_iald (f := a 2) hx hb hK hP 3 0 rfl rfl (by unfold vp_in; decide) dX5_moved_66 ?_
      refine KC.callv (ci := 5) (rest := []) (wt := wR cI o f_2 (ua a 1 (rWrite f_2 a r_2 ((a 2) (5 : Int32).toNatClampNeg)))) (kX5_write l D cI o f_2 a r_2 ((a 2) (5 : Int32).toNatClampNeg)) (cwV 2 hts gX5_moved_X5_write rfl rfl rfl (by decide +kernel) ⟨Nat.le_of_ble_eq_true rfl, Nat.le_of_ble_eq_true rfl⟩) ⟨hx, hb, hml, hown, hts⟩ hK hP hD hS hA rfl rfl rfl [0, 1, 2, 3, 4, 5, 6] [] [0, 1, 2, 3, 4, 5, 6] (by decide) rfl (wr := []) rfl (by decide) (by decide) (by decide) rfl rfl hl.1 rfl (Nat.le_of_ble_eq_true rfl) dX5_moved_67 ⟨Nat.zero_le _, Nat.zero_le _⟩ (fun H locs hP hD hS => ?_)
      refine lv_aload_n hx hb dX5_moved_70 rfl (lv_at hl 1 rfl) ?_
      refine lv_iload_n hx hb dX5_moved_71 rfl (lv_at hl 0 rfl) ?_
      refine lv_iconst (v := 1) hx hb dX5_moved_72 (by decide) ?_
      refine lv_iadd hx hb dX5_moved_73 ?_
      refine lv_ldc (v := 65535) hx hb hown (hts (.constant RX5 32 65535) (by decide +kernel)) dX5_moved_74 ?_
      refine lv_iand hx hb dX5_moved_76 ?_
      refine lv_aload_n hx hb dX5_moved_77 rfl (lv_at hl 1 rfl) ?_
      refine va_get (ci := 5) (v := .ref (o 23)) (C := RX5) (T := TX5) (N := 24) hx hb hts hi5 hown hK hP 0 rfl rfl 3 (by decide) (hts (.fieldLink RX5 16 "InvaderBoardModel" "reg" "[I") (by decide +kernel)) (fun _ h9 => h9) rfl dX5_moved_78 ?_
      refine lv_iconst (v := 4) hx hb dX5_moved_81 (by decide) ?_
      refine va_iald (f := a 2) hx hb hK hP 3 0 rfl rfl (by unfold vp_in; decide) dX5_moved_82 ?_
      refine KC.callv (ci := 5) (rest := []) (wt := wR cI o f_2 (ua (ua a 1 (rWrite f_2 a r_2 ((a 2) (5 : Int32).toNatClampNeg))) 1 (rWrite f_2 (ua a 1 (rWrite f_2 a r_2 ((a 2) (5 : Int32).toNatClampNeg))) ((r_2 + (1 : Int32)) &&& (65535 : Int32)) ((a 2) (4 : Int32).toNatClampNeg)))) (kX5_write l D cI o f_2 (ua a 1 (rWrite f_2 a r_2 ((a 2) (5 : Int32).toNatClampNeg))) ((r_2 + (1 : Int32)) &&& (65535 : Int32)) ((a 2) (4 : Int32).toNatClampNeg)) (cwV 2 hts gX5_moved_X5_write rfl rfl rfl (by decide +kernel) ⟨Nat.le_of_ble_eq_true rfl, Nat.le_of_ble_eq_true rfl⟩) ⟨hx, hb, hml, hown, hts⟩ hK hP hD hS hA rfl rfl rfl [0, 1, 2, 3, 4, 5, 6] [] [0, 1, 2, 3, 4, 5, 6] (by decide) rfl (wr := []) rfl (by decide) (by decide) (by decide) rfl rfl hl.1 rfl (Nat.le_of_ble_eq_true rfl) dX5_moved_83 ⟨Nat.zero_le _, Nat.zero_le _⟩ (fun H locs hP hD hS => ?_)
      refine lv_goto (tgt := 157) hx hb dX5_moved_86 (by decide) ?_
      refine lv_iload_n hx hb dX5_moved_157 rfl (lv_at hl 2 rfl) ?_
      refine lv_bipush (v := 6) hx hb dX5_moved_158 (by decide) ?_
      refine lv_icmp_ge (tgt := 168) hx hb dX5_moved_160 (by decide) (fun c_9 => ?_) (fun c_9 => ?_)
      · refine lv_bipush (v := 13) hx hb dX5_moved_168 (by decide) ?_
        have hF : rMoved f a p1 = ((13 : Int32), f_2, ua (ua a 1 (rWrite f_2 a r_2 ((a 2) (5 : Int32).toNatClampNeg))) 1 (rWrite f_2 (ua a 1 (rWrite f_2 a r_2 ((a 2) (5 : Int32).toNatClampNeg))) ((r_2 + (1 : Int32)) &&& (65535 : Int32)) ((a 2) (4 : Int32).toNatClampNeg))) := by simp only [rMoved, if_pos c_1, hB_2, if_pos c_3, if_pos c_9]
        rw [hF]
        exact KC.reti hx hb hr hlocks hK hP hD hS dX5_moved_170 rfl
      · refine lv_bipush (v := 16) hx hb dX5_moved_163 (by decide) ?_
        refine lv_goto (tgt := 170) hx hb dX5_moved_165 (by decide) ?_
        have hF : rMoved f a p1 = ((16 : Int32), f_2, ua (ua a 1 (rWrite f_2 a r_2 ((a 2) (5 : Int32).toNatClampNeg))) 1 (rWrite f_2 (ua a 1 (rWrite f_2 a r_2 ((a 2) (5 : Int32).toNatClampNeg))) ((r_2 + (1 : Int32)) &&& (65535 : Int32)) ((a 2) (4 : Int32).toNatClampNeg))) := by simp only [rMoved, if_pos c_1, hB_2, if_pos c_3, if_neg c_9]
        rw [hF]
        exact KC.reti hx hb hr hlocks hK hP hD hS dX5_moved_170 rfl
  · refine lv_aload_n hx hb dX5_moved_5 rfl (lv_at hl 0 rfl) ?_
    refine lv_iload_n hx hb dX5_moved_6 rfl (lv_at hl 1 rfl) ?_
    refine lv_iconst (v := 1) hx hb dX5_moved_7 (by decide) ?_
    refine lv_ishr hx hb dX5_moved_8 ?_
    refine KC.calli (ci := 5) (rest := []) (wt := wR cI o f a) (kX5_pair l D cI o f a (p1 >>> ((1 : Int32) &&& 31)) (by first | exact h1 | exact hR | exact hs | exact xin_sh1 h1 | exact xin_a7 _ | exact rNext_nn hR (by assumption) | (unfold vp_in; decide) | decide | exact xin_ng 223 (by decide) (by assumption) (by assumption) | exact xin_le 255 (by decide) (by assumption) (by assumption))) (cwV 1 hts gX5_moved_X5_pair rfl rfl rfl (by decide +kernel) ⟨Nat.le_of_ble_eq_true rfl, Nat.le_of_ble_eq_true rfl⟩) ⟨hx, hb, hml, hown, hts⟩ hK hP hD hS hA rfl rfl rfl [0, 1, 2, 3, 4, 5, 6] [] [0, 1, 2, 3, 4, 5, 6] (by decide) rfl (wr := []) rfl (by decide) (by decide) (by decide) rfl rfl hl.1 rfl (Nat.le_of_ble_eq_true rfl) dX5_moved_9 ⟨Nat.zero_le _, Nat.zero_le _⟩ (fun H locs hP hD hS => ?_)
    refine lv_istore_n (lv' := [(2, .int _), (0, .ref _), (1, .int _)]) hx hb dX5_moved_12 rfl hl (by decide) rfl (fun ls hl => ?_)
    refine lv_iload_n hx hb dX5_moved_13 rfl (lv_at hl 2 rfl) ?_
    refine lv_iconst (v := 1) hx hb dX5_moved_14 (by decide) ?_
    refine lv_iand hx hb dX5_moved_15 ?_
    refine lv_if_ne (tgt := 34) hx hb dX5_moved_16 (by decide) (fun c_10 => ?_) (fun c_10 => ?_)
    · refine lv_aload_n hx hb dX5_moved_34 rfl (lv_at hl 1 rfl) ?_
      refine va_get (ci := 5) (v := .ref (o 23)) (C := RX5) (T := TX5) (N := 24) hx hb hts hi5 hown hK hP 0 rfl rfl 3 (by decide) (hts (.fieldLink RX5 16 "InvaderBoardModel" "reg" "[I") (by decide +kernel)) (fun _ h9 => h9) rfl dX5_moved_35 ?_
      refine lv_bipush (v := 7) hx hb dX5_moved_38 (by decide) ?_
      refine lv_aload_n hx hb dX5_moved_40 rfl (lv_at hl 1 rfl) ?_
      refine lv_iload_n hx hb dX5_moved_41 rfl (lv_at hl 0 rfl) ?_
      refine KC.calli (ci := 5) (rest := [.int (7 : Int32), .ref (o 23)]) (wt := wR cI o f a) (kX5_read l D cI o f a (rPair f a (p1 >>> ((1 : Int32) &&& 31)))) (cwV 1 hts gX5_moved_X5_read rfl rfl rfl (by decide +kernel) ⟨Nat.le_of_ble_eq_true rfl, Nat.le_of_ble_eq_true rfl⟩) ⟨hx, hb, hml, hown, hts⟩ hK hP hD hS hA rfl rfl rfl [0, 1, 2, 3, 4, 5, 6] [] [0, 1, 2, 3, 4, 5, 6] (by decide) rfl (wr := []) rfl (by decide) (by decide) (by decide) rfl rfl hl.1 rfl (Nat.le_of_ble_eq_true rfl) dX5_moved_42 ⟨Nat.zero_le _, Nat.zero_le _⟩ (fun H locs hP hD hS => ?_)
      refine pu_R_a2 hx hb hK hP hD hS (by unfold vp_in; decide) dX5_moved_45 (fun H locs hP hD hS => ?_)
      refine lv_bipush (v := 7) hx hb dX5_moved_46 (by decide) ?_
      have hF : rMoved f a p1 = ((7 : Int32), f, ua a 2 (upd (a 2) (7 : Int32).toNatClampNeg (rRead f a (rPair f a (p1 >>> ((1 : Int32) &&& 31)))))) := by simp only [rMoved, if_neg c_1, if_neg c_10]
      rw [hF]
      exact KC.reti hx hb hr hlocks hK hP hD hS dX5_moved_48 rfl
    · refine lv_aload_n hx hb dX5_moved_19 rfl (lv_at hl 1 rfl) ?_
      refine lv_iload_n hx hb dX5_moved_20 rfl (lv_at hl 0 rfl) ?_
      refine lv_aload_n hx hb dX5_moved_21 rfl (lv_at hl 1 rfl) ?_
      refine va_get (ci := 5) (v := .ref (o 23)) (C := RX5) (T := TX5) (N := 24) hx hb hts hi5 hown hK hP 0 rfl rfl 3 (by decide) (hts (.fieldLink RX5 16 "InvaderBoardModel" "reg" "[I") (by decide +kernel)) (fun _ h9 => h9) rfl dX5_moved_22 ?_
      refine lv_bipush (v := 7) hx hb dX5_moved_25 (by decide) ?_
      refine va_iald (f := a 2) hx hb hK hP 3 0 rfl rfl (by unfold vp_in; decide) dX5_moved_27 ?_
      refine KC.callv (ci := 5) (rest := []) (wt := wR cI o f (ua a 1 (rWrite f a (rPair f a (p1 >>> ((1 : Int32) &&& 31))) ((a 2) (7 : Int32).toNatClampNeg)))) (kX5_write l D cI o f a (rPair f a (p1 >>> ((1 : Int32) &&& 31))) ((a 2) (7 : Int32).toNatClampNeg)) (cwV 2 hts gX5_moved_X5_write rfl rfl rfl (by decide +kernel) ⟨Nat.le_of_ble_eq_true rfl, Nat.le_of_ble_eq_true rfl⟩) ⟨hx, hb, hml, hown, hts⟩ hK hP hD hS hA rfl rfl rfl [0, 1, 2, 3, 4, 5, 6] [] [0, 1, 2, 3, 4, 5, 6] (by decide) rfl (wr := []) rfl (by decide) (by decide) (by decide) rfl rfl hl.1 rfl (Nat.le_of_ble_eq_true rfl) dX5_moved_28 ⟨Nat.zero_le _, Nat.zero_le _⟩ (fun H locs hP hD hS => ?_)
      refine lv_goto (tgt := 46) hx hb dX5_moved_31 (by decide) ?_
      refine lv_bipush (v := 7) hx hb dX5_moved_46 (by decide) ?_
      have hF : rMoved f a p1 = ((7 : Int32), f, ua a 1 (rWrite f a (rPair f a (p1 >>> ((1 : Int32) &&& 31))) ((a 2) (7 : Int32).toNatClampNeg))) := by simp only [rMoved, if_neg c_1, if_pos c_10]
      rw [hF]
      exact KC.reti hx hb hr hlocks hK hP hD hS dX5_moved_48 rfl
def rLow (f : Nat → Int32) (a : Nat → Nat → Int32) (p1 : Int32) (p2 : Int32) : Int32 × (Nat → Int32) × (Nat → Nat → Int32) :=
  if p1 &&& (1 : Int32) = (1 : Int32) then if p2 = 0 then ((4 : Int32), f, a)
    else if p2 = (1 : Int32) then (match rSetPair (upd f 16 (((rHl f a) + (rPair f a (p1 >>> ((1 : Int32) &&& 31)))) >>> ((16 : Int32) &&& 31))) a (2 : Int32) (((rHl f a) + (rPair f a (p1 >>> ((1 : Int32) &&& 31)))) &&& (65535 : Int32)) with
        | (f_40, a_40) => ((10 : Int32), f_40, a_40))
      else if p2 = (2 : Int32) then (match rMoved f a p1 with
          | (r_38, f_38, a_38) => (r_38, f_38, a_38))
        else if p2 = (3 : Int32) then (match rSetPair f a (p1 >>> ((1 : Int32) &&& 31)) (((rPair f a (p1 >>> ((1 : Int32) &&& 31))) + (-1 : Int32)) &&& (65535 : Int32)) with
            | (f_37, a_37) => ((5 : Int32), f_37, a_37))
          else if (6 : Int32) ≤ p2 then if p2 = (6 : Int32) then (match rNext f a with
                | (r_29, f_29) => if p1 = (6 : Int32) then ((10 : Int32), f_29, rSet f_29 a p1 r_29)
                  else ((7 : Int32), f_29, rSet f_29 a p1 r_29))
              else (match rTurn f a p1 with
                | (f_28, a_28) => ((4 : Int32), f_28, a_28))
            else if p2 = (4 : Int32) then (match rCount f a p1 (1 : Int32) with
                | (f_34, a_34) => if p1 = (6 : Int32) then ((10 : Int32), f_34, a_34)
                  else ((5 : Int32), f_34, a_34))
              else (match rCount f a p1 (-1 : Int32) with
                | (f_32, a_32) => if p1 = (6 : Int32) then ((10 : Int32), f_32, a_32)
                  else ((5 : Int32), f_32, a_32))
  else if p2 = 0 then ((4 : Int32), f, a)
    else if p2 = (1 : Int32) then (match rNextTwo f a with
        | (r_20, f_20) => (match rSetPair f_20 a (p1 >>> ((1 : Int32) &&& 31)) r_20 with
          | (f_21, a_21) => ((10 : Int32), f_21, a_21)))
      else if p2 = (2 : Int32) then (match rMoved f a p1 with
          | (r_18, f_18, a_18) => (r_18, f_18, a_18))
        else if p2 = (3 : Int32) then (match rSetPair f a (p1 >>> ((1 : Int32) &&& 31)) (((rPair f a (p1 >>> ((1 : Int32) &&& 31))) + (1 : Int32)) &&& (65535 : Int32)) with
            | (f_17, a_17) => ((5 : Int32), f_17, a_17))
          else if (6 : Int32) ≤ p2 then if p2 = (6 : Int32) then (match rNext f a with
                | (r_9, f_9) => if p1 = (6 : Int32) then ((10 : Int32), f_9, rSet f_9 a p1 r_9)
                  else ((7 : Int32), f_9, rSet f_9 a p1 r_9))
              else (match rTurn f a p1 with
                | (f_8, a_8) => ((4 : Int32), f_8, a_8))
            else if p2 = (4 : Int32) then (match rCount f a p1 (1 : Int32) with
                | (f_14, a_14) => if p1 = (6 : Int32) then ((10 : Int32), f_14, a_14)
                  else ((5 : Int32), f_14, a_14))
              else (match rCount f a p1 (-1 : Int32) with
                | (f_12, a_12) => if p1 = (6 : Int32) then ((10 : Int32), f_12, a_12)
                  else ((5 : Int32), f_12, a_12))
set_option maxHeartbeats 4000000 in
set_option maxRecDepth 100000 in
theorem kX5_low (l : Launch) (D : va_G) (cI : ClassId) (o : Nat → Nat) (f : Nat → Int32) (a : Nat → Nat → Int32) (p1 : Int32) (p2 : Int32) (h1 : vp_in p1 8) : KC l yX5_low wsX5_low 4 [.ref (o 20), .int p1, .int p2] D cI (wR cI o f a) (wR cI o ((rLow f a p1 p2).2.1) ((rLow f a p1 p2).2.2)) (some (.int (rLow f a p1 p2).1)) := by
  refine KC.of (cc := cX5_low) (maxL := 6) (by decide) rfl (Nat.le_of_ble_eq_true rfl) ?_
  intro p e s m below meth c A hx hb hr hts hown hlocks hml hK hP hD hS hA ls hl
  have hl : lv_has ls 6 [(0, .ref (o 20)), (1, .int p1), (2, .int p2)] := hl
  have hown : s.vm.findClass RX5 = some m.cls := hown
  have hi5 : ∀ w ∈ u_ws RX5 TX5 24, w ∈ wsX5_low := by decide +kernel
  refine lv_iload_n hx hb dX5_low_0 rfl (lv_at hl 1 rfl) ?_
  refine lv_iconst (v := 1) hx hb dX5_low_1 (by decide) ?_
  refine lv_ishr hx hb dX5_low_2 ?_
  refine lv_istore_n (lv' := [(3, .int _), (0, .ref _), (1, .int _), (2, .int _)]) hx hb dX5_low_3 rfl hl (by decide) rfl (fun ls hl => ?_)
  refine lv_iload_n hx hb dX5_low_4 rfl (lv_at hl 2 rfl) ?_
  refine lv_iconst (v := 1) hx hb dX5_low_5 (by decide) ?_
  refine lv_iand hx hb dX5_low_6 ?_
  refine lv_iconst (v := 1) hx hb dX5_low_7 (by decide) ?_
  refine lv_icmp_ne (tgt := 15) hx hb dX5_low_8 (by decide) (fun c_1 => ?_) (fun c_1 => ?_)
  · refine lv_iconst (v := 0) hx hb dX5_low_15 (by decide) ?_
    refine lv_istore (lv' := [(4, .int _), (3, .int _), (0, .ref _), (1, .int _), (2, .int _)]) hx hb dX5_low_16 hl (by decide) rfl (fun ls hl => ?_)
    refine lv_iload_n hx hb dX5_low_18 rfl (lv_at hl 4 rfl) ?_
    refine lv_if_ne (tgt := 24) hx hb dX5_low_19 (by decide) (fun c_2 => ?_) (fun c_2 => ?_)
    · refine lv_iload_n hx hb dX5_low_24 rfl (lv_at hl 4 rfl) ?_
      refine lv_iconst (v := 1) hx hb dX5_low_25 (by decide) ?_
      refine lv_icmp_ne (tgt := 80) hx hb dX5_low_26 (by decide) (fun c_3 => ?_) (fun c_3 => ?_)
      · refine lv_iload_n hx hb dX5_low_80 rfl (lv_at hl 4 rfl) ?_
        refine lv_iconst (v := 2) hx hb dX5_low_81 (by decide) ?_
        refine lv_icmp_ne (tgt := 91) hx hb dX5_low_82 (by decide) (fun c_4 => ?_) (fun c_4 => ?_)
        · refine lv_iload_n hx hb dX5_low_91 rfl (lv_at hl 4 rfl) ?_
          refine lv_iconst (v := 3) hx hb dX5_low_92 (by decide) ?_
          refine lv_icmp_ne (tgt := 122) hx hb dX5_low_93 (by decide) (fun c_5 => ?_) (fun c_5 => ?_)
          · refine lv_iload_n hx hb dX5_low_122 rfl (lv_at hl 4 rfl) ?_
            refine lv_bipush (v := 6) hx hb dX5_low_123 (by decide) ?_
            refine lv_icmp_ge (tgt := 156) hx hb dX5_low_125 (by decide) (fun c_6 => ?_) (fun c_6 => ?_)
            · refine lv_iload_n hx hb dX5_low_156 rfl (lv_at hl 4 rfl) ?_
              refine lv_bipush (v := 6) hx hb dX5_low_157 (by decide) ?_
              refine lv_icmp_ne (tgt := 185) hx hb dX5_low_159 (by decide) (fun c_7 => ?_) (fun c_7 => ?_)
              · refine lv_aload_n hx hb dX5_low_185 rfl (lv_at hl 2 rfl) ?_
                refine lv_iload_n hx hb dX5_low_186 rfl (lv_at hl 3 rfl) ?_
                obtain ⟨f_8, a_8, hB_8⟩ : ∃ (f_8 : Nat → Int32) (a_8 : Nat → Nat → Int32), rTurn f a p1 = (f_8, a_8) := ⟨_, _, rfl⟩
                have kc_8 := kX5_turn l D cI o f a p1
                rw [hB_8] at kc_8
                refine KC.callv (ci := 5) (rest := []) (wt := wR cI o f_8 a_8) (kc_8) (cwV 1 hts gX5_low_X5_turn rfl rfl rfl (by decide +kernel) ⟨Nat.le_of_ble_eq_true rfl, Nat.le_of_ble_eq_true rfl⟩) ⟨hx, hb, hml, hown, hts⟩ hK hP hD hS hA rfl rfl rfl [0, 1, 2, 3, 4, 5, 6] [] [0, 1, 2, 3, 4, 5, 6] (by decide) rfl (wr := []) rfl (by decide) (by decide) (by decide) rfl rfl hl.1 rfl (Nat.le_of_ble_eq_true rfl) dX5_low_187 ⟨Nat.zero_le _, Nat.zero_le _⟩ (fun H locs hP hD hS => ?_)
                refine lv_iconst (v := 4) hx hb dX5_low_190 (by decide) ?_
                have hF : rLow f a p1 p2 = ((4 : Int32), f_8, a_8) := by simp only [rLow, if_neg c_1, if_neg c_2, if_neg c_3, if_neg c_4, if_neg c_5, if_pos c_6, if_neg c_7, hB_8]
                rw [hF]
                exact KC.reti hx hb hr hlocks hK hP hD hS dX5_low_191 rfl
              · refine lv_aload_n hx hb dX5_low_162 rfl (lv_at hl 2 rfl) ?_
                refine lv_iload_n hx hb dX5_low_163 rfl (lv_at hl 3 rfl) ?_
                refine lv_aload_n hx hb dX5_low_164 rfl (lv_at hl 2 rfl) ?_
                obtain ⟨r_9, f_9, hB_9⟩ : ∃ (r_9 : Int32) (f_9 : Nat → Int32), rNext f a = (r_9, f_9) := ⟨_, _, rfl⟩
                have kc_9 := kX5_next l D cI o f a
                rw [hB_9] at kc_9
                refine KC.calli (ci := 5) (rest := [.int p1, .ref (o 20)]) (wt := wR cI o f_9 a) (kc_9) (cwV 0 hts gX5_low_X5_next rfl rfl rfl (by decide +kernel) ⟨Nat.le_of_ble_eq_true rfl, Nat.le_of_ble_eq_true rfl⟩) ⟨hx, hb, hml, hown, hts⟩ hK hP hD hS hA rfl rfl rfl [0, 1, 2, 3, 4, 5, 6] [] [0, 1, 2, 3, 4, 5, 6] (by decide) rfl (wr := []) rfl (by decide) (by decide) (by decide) rfl rfl hl.1 rfl (Nat.le_of_ble_eq_true rfl) dX5_low_165 ⟨Nat.zero_le _, Nat.zero_le _⟩ (fun H locs hP hD hS => ?_)
                refine KC.callv (ci := 5) (rest := []) (wt := wR cI o f_9 (rSet f_9 a p1 r_9)) (kX5_set l D cI o f_9 a p1 r_9 (by first | exact h1 | exact hR | exact hs | exact xin_sh1 h1 | exact xin_a7 _ | exact rNext_nn hR (by assumption) | (unfold vp_in; decide) | decide | exact xin_ng 223 (by decide) (by assumption) (by assumption) | exact xin_le 255 (by decide) (by assumption) (by assumption))) (cwV 2 hts gX5_low_X5_set rfl rfl rfl (by decide +kernel) ⟨Nat.le_of_ble_eq_true rfl, Nat.le_of_ble_eq_true rfl⟩) ⟨hx, hb, hml, hown, hts⟩ hK hP hD hS hA rfl rfl rfl [0, 1, 2, 3, 4, 5, 6] [] [0, 1, 2, 3, 4, 5, 6] (by decide) rfl (wr := []) rfl (by decide) (by decide) (by decide) rfl rfl hl.1 rfl (Nat.le_of_ble_eq_true rfl) dX5_low_168 ⟨Nat.zero_le _, Nat.zero_le _⟩ (fun H locs hP hD hS => ?_)
                refine lv_iload_n hx hb dX5_low_171 rfl (lv_at hl 3 rfl) ?_
                refine lv_bipush (v := 6) hx hb dX5_low_172 (by decide) ?_
                refine lv_icmp_ne (tgt := 182) hx hb dX5_low_174 (by decide) (fun c_10 => ?_) (fun c_10 => ?_)
                · refine lv_bipush (v := 7) hx hb dX5_low_182 (by decide) ?_
                  have hF : rLow f a p1 p2 = ((7 : Int32), f_9, rSet f_9 a p1 r_9) := by simp only [rLow, if_neg c_1, if_neg c_2, if_neg c_3, if_neg c_4, if_neg c_5, if_pos c_6, if_pos c_7, hB_9, if_neg c_10]
                  rw [hF]
                  exact KC.reti hx hb hr hlocks hK hP hD hS dX5_low_184 rfl
                · refine lv_bipush (v := 10) hx hb dX5_low_177 (by decide) ?_
                  refine lv_goto (tgt := 184) hx hb dX5_low_179 (by decide) ?_
                  have hF : rLow f a p1 p2 = ((10 : Int32), f_9, rSet f_9 a p1 r_9) := by simp only [rLow, if_neg c_1, if_neg c_2, if_neg c_3, if_neg c_4, if_neg c_5, if_pos c_6, if_pos c_7, hB_9, if_pos c_10]
                  rw [hF]
                  exact KC.reti hx hb hr hlocks hK hP hD hS dX5_low_184 rfl
            · refine lv_aload_n hx hb dX5_low_128 rfl (lv_at hl 2 rfl) ?_
              refine lv_iload_n hx hb dX5_low_129 rfl (lv_at hl 3 rfl) ?_
              refine lv_iload_n hx hb dX5_low_130 rfl (lv_at hl 4 rfl) ?_
              refine lv_iconst (v := 4) hx hb dX5_low_131 (by decide) ?_
              refine lv_icmp_ne (tgt := 139) hx hb dX5_low_132 (by decide) (fun c_11 => ?_) (fun c_11 => ?_)
              · refine lv_iconst (v := -1) hx hb dX5_low_139 (by decide) ?_
                obtain ⟨f_12, a_12, hB_12⟩ : ∃ (f_12 : Nat → Int32) (a_12 : Nat → Nat → Int32), rCount f a p1 (-1 : Int32) = (f_12, a_12) := ⟨_, _, rfl⟩
                have kc_12 := kX5_count l D cI o f a p1 (-1 : Int32) (by first | exact h1 | exact hR | exact hs | exact xin_sh1 h1 | exact xin_a7 _ | exact rNext_nn hR (by assumption) | (unfold vp_in; decide) | decide | exact xin_ng 223 (by decide) (by assumption) (by assumption) | exact xin_le 255 (by decide) (by assumption) (by assumption))
                rw [hB_12] at kc_12
                refine KC.callv (ci := 5) (rest := []) (wt := wR cI o f_12 a_12) (kc_12) (cwV 2 hts gX5_low_X5_count rfl rfl rfl (by decide +kernel) ⟨Nat.le_of_ble_eq_true rfl, Nat.le_of_ble_eq_true rfl⟩) ⟨hx, hb, hml, hown, hts⟩ hK hP hD hS hA rfl rfl rfl [0, 1, 2, 3, 4, 5, 6] [] [0, 1, 2, 3, 4, 5, 6] (by decide) rfl (wr := []) rfl (by decide) (by decide) (by decide) rfl rfl hl.1 rfl (Nat.le_of_ble_eq_true rfl) dX5_low_140 ⟨Nat.zero_le _, Nat.zero_le _⟩ (fun H locs hP hD hS => ?_)
                refine lv_iload_n hx hb dX5_low_143 rfl (lv_at hl 3 rfl) ?_
                refine lv_bipush (v := 6) hx hb dX5_low_144 (by decide) ?_
                refine lv_icmp_ne (tgt := 154) hx hb dX5_low_146 (by decide) (fun c_13 => ?_) (fun c_13 => ?_)
                · refine lv_iconst (v := 5) hx hb dX5_low_154 (by decide) ?_
                  have hF : rLow f a p1 p2 = ((5 : Int32), f_12, a_12) := by simp only [rLow, if_neg c_1, if_neg c_2, if_neg c_3, if_neg c_4, if_neg c_5, if_neg c_6, if_neg c_11, hB_12, if_neg c_13]
                  rw [hF]
                  exact KC.reti hx hb hr hlocks hK hP hD hS dX5_low_155 rfl
                · refine lv_bipush (v := 10) hx hb dX5_low_149 (by decide) ?_
                  refine lv_goto (tgt := 155) hx hb dX5_low_151 (by decide) ?_
                  have hF : rLow f a p1 p2 = ((10 : Int32), f_12, a_12) := by simp only [rLow, if_neg c_1, if_neg c_2, if_neg c_3, if_neg c_4, if_neg c_5, if_neg c_6, if_neg c_11, hB_12, if_pos c_13]
                  rw [hF]
                  exact KC.reti hx hb hr hlocks hK hP hD hS dX5_low_155 rfl
              · refine lv_iconst (v := 1) hx hb dX5_low_135 (by decide) ?_
                refine lv_goto (tgt := 140) hx hb dX5_low_136 (by decide) ?_
                obtain ⟨f_14, a_14, hB_14⟩ : ∃ (f_14 : Nat → Int32) (a_14 : Nat → Nat → Int32), rCount f a p1 (1 : Int32) = (f_14, a_14) := ⟨_, _, rfl⟩
                have kc_14 := kX5_count l D cI o f a p1 (1 : Int32) (by first | exact h1 | exact hR | exact hs | exact xin_sh1 h1 | exact xin_a7 _ | exact rNext_nn hR (by assumption) | (unfold vp_in; decide) | decide | exact xin_ng 223 (by decide) (by assumption) (by assumption) | exact xin_le 255 (by decide) (by assumption) (by assumption))
                rw [hB_14] at kc_14
                refine KC.callv (ci := 5) (rest := []) (wt := wR cI o f_14 a_14) (kc_14) (cwV 2 hts gX5_low_X5_count rfl rfl rfl (by decide +kernel) ⟨Nat.le_of_ble_eq_true rfl, Nat.le_of_ble_eq_true rfl⟩) ⟨hx, hb, hml, hown, hts⟩ hK hP hD hS hA rfl rfl rfl [0, 1, 2, 3, 4, 5, 6] [] [0, 1, 2, 3, 4, 5, 6] (by decide) rfl (wr := []) rfl (by decide) (by decide) (by decide) rfl rfl hl.1 rfl (Nat.le_of_ble_eq_true rfl) dX5_low_140 ⟨Nat.zero_le _, Nat.zero_le _⟩ (fun H locs hP hD hS => ?_)
                refine lv_iload_n hx hb dX5_low_143 rfl (lv_at hl 3 rfl) ?_
                refine lv_bipush (v := 6) hx hb dX5_low_144 (by decide) ?_
                refine lv_icmp_ne (tgt := 154) hx hb dX5_low_146 (by decide) (fun c_15 => ?_) (fun c_15 => ?_)
                · refine lv_iconst (v := 5) hx hb dX5_low_154 (by decide) ?_
                  have hF : rLow f a p1 p2 = ((5 : Int32), f_14, a_14) := by simp only [rLow, if_neg c_1, if_neg c_2, if_neg c_3, if_neg c_4, if_neg c_5, if_neg c_6, if_pos c_11, hB_14, if_neg c_15]
                  rw [hF]
                  exact KC.reti hx hb hr hlocks hK hP hD hS dX5_low_155 rfl
                · refine lv_bipush (v := 10) hx hb dX5_low_149 (by decide) ?_
                  refine lv_goto (tgt := 155) hx hb dX5_low_151 (by decide) ?_
                  have hF : rLow f a p1 p2 = ((10 : Int32), f_14, a_14) := by simp only [rLow, if_neg c_1, if_neg c_2, if_neg c_3, if_neg c_4, if_neg c_5, if_neg c_6, if_pos c_11, hB_14, if_pos c_15]
                  rw [hF]
                  exact KC.reti hx hb hr hlocks hK hP hD hS dX5_low_155 rfl
          · refine lv_aload_n hx hb dX5_low_96 rfl (lv_at hl 2 rfl) ?_
            refine lv_iload_n hx hb dX5_low_97 rfl (lv_at hl 1 rfl) ?_
            refine lv_aload_n hx hb dX5_low_98 rfl (lv_at hl 2 rfl) ?_
            refine lv_iload_n hx hb dX5_low_99 rfl (lv_at hl 1 rfl) ?_
            refine KC.calli (ci := 5) (rest := [.int (p1 >>> ((1 : Int32) &&& 31)), .ref (o 20)]) (wt := wR cI o f a) (kX5_pair l D cI o f a (p1 >>> ((1 : Int32) &&& 31)) (by first | exact h1 | exact hR | exact hs | exact xin_sh1 h1 | exact xin_a7 _ | exact rNext_nn hR (by assumption) | (unfold vp_in; decide) | decide | exact xin_ng 223 (by decide) (by assumption) (by assumption) | exact xin_le 255 (by decide) (by assumption) (by assumption))) (cwV 1 hts gX5_low_X5_pair rfl rfl rfl (by decide +kernel) ⟨Nat.le_of_ble_eq_true rfl, Nat.le_of_ble_eq_true rfl⟩) ⟨hx, hb, hml, hown, hts⟩ hK hP hD hS hA rfl rfl rfl [0, 1, 2, 3, 4, 5, 6] [] [0, 1, 2, 3, 4, 5, 6] (by decide) rfl (wr := []) rfl (by decide) (by decide) (by decide) rfl rfl hl.1 rfl (Nat.le_of_ble_eq_true rfl) dX5_low_100 ⟨Nat.zero_le _, Nat.zero_le _⟩ (fun H locs hP hD hS => ?_)
            refine lv_iload hx hb dX5_low_103 (lv_at hl 0 rfl) ?_
            refine lv_if_eq (tgt := 112) hx hb dX5_low_105 (by decide) (fun c_16 => ?_) (fun c_16 => ?_)
            · refine lv_iconst (v := 1) hx hb dX5_low_112 (by decide) ?_
              refine lv_iadd hx hb dX5_low_113 ?_
              refine lv_ldc (v := 65535) hx hb hown (hts (.constant RX5 32 65535) (by decide +kernel)) dX5_low_114 ?_
              refine lv_iand hx hb dX5_low_116 ?_
              obtain ⟨f_17, a_17, hB_17⟩ : ∃ (f_17 : Nat → Int32) (a_17 : Nat → Nat → Int32), rSetPair f a (p1 >>> ((1 : Int32) &&& 31)) (((rPair f a (p1 >>> ((1 : Int32) &&& 31))) + (1 : Int32)) &&& (65535 : Int32)) = (f_17, a_17) := ⟨_, _, rfl⟩
              have kc_17 := kX5_setPair l D cI o f a (p1 >>> ((1 : Int32) &&& 31)) (((rPair f a (p1 >>> ((1 : Int32) &&& 31))) + (1 : Int32)) &&& (65535 : Int32)) (by first | exact h1 | exact hR | exact hs | exact xin_sh1 h1 | exact xin_a7 _ | exact rNext_nn hR (by assumption) | (unfold vp_in; decide) | decide | exact xin_ng 223 (by decide) (by assumption) (by assumption) | exact xin_le 255 (by decide) (by assumption) (by assumption))
              rw [hB_17] at kc_17
              refine KC.callv (ci := 5) (rest := []) (wt := wR cI o f_17 a_17) (kc_17) (cwV 2 hts gX5_low_X5_setPair rfl rfl rfl (by decide +kernel) ⟨Nat.le_of_ble_eq_true rfl, Nat.le_of_ble_eq_true rfl⟩) ⟨hx, hb, hml, hown, hts⟩ hK hP hD hS hA rfl rfl rfl [0, 1, 2, 3, 4, 5, 6] [] [0, 1, 2, 3, 4, 5, 6] (by decide) rfl (wr := []) rfl (by decide) (by decide) (by decide) rfl rfl hl.1 rfl (Nat.le_of_ble_eq_true rfl) dX5_low_117 ⟨Nat.zero_le _, Nat.zero_le _⟩ (fun H locs hP hD hS => ?_)
              refine lv_iconst (v := 5) hx hb dX5_low_120 (by decide) ?_
              have hF : rLow f a p1 p2 = ((5 : Int32), f_17, a_17) := by simp only [rLow, if_neg c_1, if_neg c_2, if_neg c_3, if_neg c_4, if_pos c_5, hB_17]
              rw [hF]
              exact KC.reti hx hb hr hlocks hK hP hD hS dX5_low_121 rfl
            · exact absurd c_16 (by decide)
        · refine lv_aload_n hx hb dX5_low_85 rfl (lv_at hl 2 rfl) ?_
          refine lv_iload_n hx hb dX5_low_86 rfl (lv_at hl 3 rfl) ?_
          obtain ⟨r_18, f_18, a_18, hB_18⟩ : ∃ (r_18 : Int32) (f_18 : Nat → Int32) (a_18 : Nat → Nat → Int32), rMoved f a p1 = (r_18, f_18, a_18) := ⟨_, _, _, rfl⟩
          have kc_18 := kX5_moved l D cI o f a p1 (by first | exact h1 | exact hR | exact hs | exact xin_sh1 h1 | exact xin_a7 _ | exact rNext_nn hR (by assumption) | (unfold vp_in; decide) | decide | exact xin_ng 223 (by decide) (by assumption) (by assumption) | exact xin_le 255 (by decide) (by assumption) (by assumption))
          rw [hB_18] at kc_18
          refine KC.calli (ci := 5) (rest := []) (wt := wR cI o f_18 a_18) (kc_18) (cwV 1 hts gX5_low_X5_moved rfl rfl rfl (by decide +kernel) ⟨Nat.le_of_ble_eq_true rfl, Nat.le_of_ble_eq_true rfl⟩) ⟨hx, hb, hml, hown, hts⟩ hK hP hD hS hA rfl rfl rfl [0, 1, 2, 3, 4, 5, 6] [] [0, 1, 2, 3, 4, 5, 6] (by decide) rfl (wr := []) rfl (by decide) (by decide) (by decide) rfl rfl hl.1 rfl (Nat.le_of_ble_eq_true rfl) dX5_low_87 ⟨Nat.zero_le _, Nat.zero_le _⟩ (fun H locs hP hD hS => ?_)
          have hF : rLow f a p1 p2 = (r_18, f_18, a_18) := by simp only [rLow, if_neg c_1, if_neg c_2, if_neg c_3, if_pos c_4, hB_18]
          rw [hF]
          exact KC.reti hx hb hr hlocks hK hP hD hS dX5_low_90 rfl
      · refine lv_iload hx hb dX5_low_29 (lv_at hl 0 rfl) ?_
        refine lv_if_eq (tgt := 68) hx hb dX5_low_31 (by decide) (fun c_19 => ?_) (fun c_19 => ?_)
        · refine lv_aload_n hx hb dX5_low_68 rfl (lv_at hl 2 rfl) ?_
          refine lv_iload_n hx hb dX5_low_69 rfl (lv_at hl 1 rfl) ?_
          refine lv_aload_n hx hb dX5_low_70 rfl (lv_at hl 2 rfl) ?_
          obtain ⟨r_20, f_20, hB_20⟩ : ∃ (r_20 : Int32) (f_20 : Nat → Int32), rNextTwo f a = (r_20, f_20) := ⟨_, _, rfl⟩
          have kc_20 := kX5_nextTwo l D cI o f a
          rw [hB_20] at kc_20
          refine KC.calli (ci := 5) (rest := [.int (p1 >>> ((1 : Int32) &&& 31)), .ref (o 20)]) (wt := wR cI o f_20 a) (kc_20) (cwV 0 hts gX5_low_X5_nextTwo rfl rfl rfl (by decide +kernel) ⟨Nat.le_of_ble_eq_true rfl, Nat.le_of_ble_eq_true rfl⟩) ⟨hx, hb, hml, hown, hts⟩ hK hP hD hS hA rfl rfl rfl [0, 1, 2, 3, 4, 5, 6] [] [0, 1, 2, 3, 4, 5, 6] (by decide) rfl (wr := []) rfl (by decide) (by decide) (by decide) rfl rfl hl.1 rfl (Nat.le_of_ble_eq_true rfl) dX5_low_71 ⟨Nat.zero_le _, Nat.zero_le _⟩ (fun H locs hP hD hS => ?_)
          obtain ⟨f_21, a_21, hB_21⟩ : ∃ (f_21 : Nat → Int32) (a_21 : Nat → Nat → Int32), rSetPair f_20 a (p1 >>> ((1 : Int32) &&& 31)) r_20 = (f_21, a_21) := ⟨_, _, rfl⟩
          have kc_21 := kX5_setPair l D cI o f_20 a (p1 >>> ((1 : Int32) &&& 31)) r_20 (by first | exact h1 | exact hR | exact hs | exact xin_sh1 h1 | exact xin_a7 _ | exact rNext_nn hR (by assumption) | (unfold vp_in; decide) | decide | exact xin_ng 223 (by decide) (by assumption) (by assumption) | exact xin_le 255 (by decide) (by assumption) (by assumption))
          rw [hB_21] at kc_21
          refine KC.callv (ci := 5) (rest := []) (wt := wR cI o f_21 a_21) (kc_21) (cwV 2 hts gX5_low_X5_setPair rfl rfl rfl (by decide +kernel) ⟨Nat.le_of_ble_eq_true rfl, Nat.le_of_ble_eq_true rfl⟩) ⟨hx, hb, hml, hown, hts⟩ hK hP hD hS hA rfl rfl rfl [0, 1, 2, 3, 4, 5, 6] [] [0, 1, 2, 3, 4, 5, 6] (by decide) rfl (wr := []) rfl (by decide) (by decide) (by decide) rfl rfl hl.1 rfl (Nat.le_of_ble_eq_true rfl) dX5_low_74 ⟨Nat.zero_le _, Nat.zero_le _⟩ (fun H locs hP hD hS => ?_)
          refine lv_bipush (v := 10) hx hb dX5_low_77 (by decide) ?_
          have hF : rLow f a p1 p2 = ((10 : Int32), f_21, a_21) := by simp only [rLow, if_neg c_1, if_neg c_2, if_pos c_3, hB_20, hB_21]
          rw [hF]
          exact KC.reti hx hb hr hlocks hK hP hD hS dX5_low_79 rfl
        · exact absurd c_19 (by decide)
    · refine lv_iconst (v := 4) hx hb dX5_low_22 (by decide) ?_
      have hF : rLow f a p1 p2 = ((4 : Int32), f, a) := by simp only [rLow, if_neg c_1, if_pos c_2]
      rw [hF]
      exact KC.reti hx hb hr hlocks hK hP hD hS dX5_low_23 rfl
  · refine lv_iconst (v := 1) hx hb dX5_low_11 (by decide) ?_
    refine lv_goto (tgt := 16) hx hb dX5_low_12 (by decide) ?_
    refine lv_istore (lv' := [(4, .int _), (3, .int _), (0, .ref _), (1, .int _), (2, .int _)]) hx hb dX5_low_16 hl (by decide) rfl (fun ls hl => ?_)
    refine lv_iload_n hx hb dX5_low_18 rfl (lv_at hl 4 rfl) ?_
    refine lv_if_ne (tgt := 24) hx hb dX5_low_19 (by decide) (fun c_22 => ?_) (fun c_22 => ?_)
    · refine lv_iload_n hx hb dX5_low_24 rfl (lv_at hl 4 rfl) ?_
      refine lv_iconst (v := 1) hx hb dX5_low_25 (by decide) ?_
      refine lv_icmp_ne (tgt := 80) hx hb dX5_low_26 (by decide) (fun c_23 => ?_) (fun c_23 => ?_)
      · refine lv_iload_n hx hb dX5_low_80 rfl (lv_at hl 4 rfl) ?_
        refine lv_iconst (v := 2) hx hb dX5_low_81 (by decide) ?_
        refine lv_icmp_ne (tgt := 91) hx hb dX5_low_82 (by decide) (fun c_24 => ?_) (fun c_24 => ?_)
        · refine lv_iload_n hx hb dX5_low_91 rfl (lv_at hl 4 rfl) ?_
          refine lv_iconst (v := 3) hx hb dX5_low_92 (by decide) ?_
          refine lv_icmp_ne (tgt := 122) hx hb dX5_low_93 (by decide) (fun c_25 => ?_) (fun c_25 => ?_)
          · refine lv_iload_n hx hb dX5_low_122 rfl (lv_at hl 4 rfl) ?_
            refine lv_bipush (v := 6) hx hb dX5_low_123 (by decide) ?_
            refine lv_icmp_ge (tgt := 156) hx hb dX5_low_125 (by decide) (fun c_26 => ?_) (fun c_26 => ?_)
            · refine lv_iload_n hx hb dX5_low_156 rfl (lv_at hl 4 rfl) ?_
              refine lv_bipush (v := 6) hx hb dX5_low_157 (by decide) ?_
              refine lv_icmp_ne (tgt := 185) hx hb dX5_low_159 (by decide) (fun c_27 => ?_) (fun c_27 => ?_)
              · refine lv_aload_n hx hb dX5_low_185 rfl (lv_at hl 2 rfl) ?_
                refine lv_iload_n hx hb dX5_low_186 rfl (lv_at hl 3 rfl) ?_
                obtain ⟨f_28, a_28, hB_28⟩ : ∃ (f_28 : Nat → Int32) (a_28 : Nat → Nat → Int32), rTurn f a p1 = (f_28, a_28) := ⟨_, _, rfl⟩
                have kc_28 := kX5_turn l D cI o f a p1
                rw [hB_28] at kc_28
                refine KC.callv (ci := 5) (rest := []) (wt := wR cI o f_28 a_28) (kc_28) (cwV 1 hts gX5_low_X5_turn rfl rfl rfl (by decide +kernel) ⟨Nat.le_of_ble_eq_true rfl, Nat.le_of_ble_eq_true rfl⟩) ⟨hx, hb, hml, hown, hts⟩ hK hP hD hS hA rfl rfl rfl [0, 1, 2, 3, 4, 5, 6] [] [0, 1, 2, 3, 4, 5, 6] (by decide) rfl (wr := []) rfl (by decide) (by decide) (by decide) rfl rfl hl.1 rfl (Nat.le_of_ble_eq_true rfl) dX5_low_187 ⟨Nat.zero_le _, Nat.zero_le _⟩ (fun H locs hP hD hS => ?_)
                refine lv_iconst (v := 4) hx hb dX5_low_190 (by decide) ?_
                have hF : rLow f a p1 p2 = ((4 : Int32), f_28, a_28) := by simp only [rLow, if_pos c_1, if_neg c_22, if_neg c_23, if_neg c_24, if_neg c_25, if_pos c_26, if_neg c_27, hB_28]
                rw [hF]
                exact KC.reti hx hb hr hlocks hK hP hD hS dX5_low_191 rfl
              · refine lv_aload_n hx hb dX5_low_162 rfl (lv_at hl 2 rfl) ?_
                refine lv_iload_n hx hb dX5_low_163 rfl (lv_at hl 3 rfl) ?_
                refine lv_aload_n hx hb dX5_low_164 rfl (lv_at hl 2 rfl) ?_
                obtain ⟨r_29, f_29, hB_29⟩ : ∃ (r_29 : Int32) (f_29 : Nat → Int32), rNext f a = (r_29, f_29) := ⟨_, _, rfl⟩
                have kc_29 := kX5_next l D cI o f a
                rw [hB_29] at kc_29
                refine KC.calli (ci := 5) (rest := [.int p1, .ref (o 20)]) (wt := wR cI o f_29 a) (kc_29) (cwV 0 hts gX5_low_X5_next rfl rfl rfl (by decide +kernel) ⟨Nat.le_of_ble_eq_true rfl, Nat.le_of_ble_eq_true rfl⟩) ⟨hx, hb, hml, hown, hts⟩ hK hP hD hS hA rfl rfl rfl [0, 1, 2, 3, 4, 5, 6] [] [0, 1, 2, 3, 4, 5, 6] (by decide) rfl (wr := []) rfl (by decide) (by decide) (by decide) rfl rfl hl.1 rfl (Nat.le_of_ble_eq_true rfl) dX5_low_165 ⟨Nat.zero_le _, Nat.zero_le _⟩ (fun H locs hP hD hS => ?_)
                refine KC.callv (ci := 5) (rest := []) (wt := wR cI o f_29 (rSet f_29 a p1 r_29)) (kX5_set l D cI o f_29 a p1 r_29 (by first | exact h1 | exact hR | exact hs | exact xin_sh1 h1 | exact xin_a7 _ | exact rNext_nn hR (by assumption) | (unfold vp_in; decide) | decide | exact xin_ng 223 (by decide) (by assumption) (by assumption) | exact xin_le 255 (by decide) (by assumption) (by assumption))) (cwV 2 hts gX5_low_X5_set rfl rfl rfl (by decide +kernel) ⟨Nat.le_of_ble_eq_true rfl, Nat.le_of_ble_eq_true rfl⟩) ⟨hx, hb, hml, hown, hts⟩ hK hP hD hS hA rfl rfl rfl [0, 1, 2, 3, 4, 5, 6] [] [0, 1, 2, 3, 4, 5, 6] (by decide) rfl (wr := []) rfl (by decide) (by decide) (by decide) rfl rfl hl.1 rfl (Nat.le_of_ble_eq_true rfl) dX5_low_168 ⟨Nat.zero_le _, Nat.zero_le _⟩ (fun H locs hP hD hS => ?_)
                refine lv_iload_n hx hb dX5_low_171 rfl (lv_at hl 3 rfl) ?_
                refine lv_bipush (v := 6) hx hb dX5_low_172 (by decide) ?_
                refine lv_icmp_ne (tgt := 182) hx hb dX5_low_174 (by decide) (fun c_30 => ?_) (fun c_30 => ?_)
                · refine lv_bipush (v := 7) hx hb dX5_low_182 (by decide) ?_
                  have hF : rLow f a p1 p2 = ((7 : Int32), f_29, rSet f_29 a p1 r_29) := by simp only [rLow, if_pos c_1, if_neg c_22, if_neg c_23, if_neg c_24, if_neg c_25, if_pos c_26, if_pos c_27, hB_29, if_neg c_30]
                  rw [hF]
                  exact KC.reti hx hb hr hlocks hK hP hD hS dX5_low_184 rfl
                · refine lv_bipush (v := 10) hx hb dX5_low_177 (by decide) ?_
                  refine lv_goto (tgt := 184) hx hb dX5_low_179 (by decide) ?_
                  have hF : rLow f a p1 p2 = ((10 : Int32), f_29, rSet f_29 a p1 r_29) := by simp only [rLow, if_pos c_1, if_neg c_22, if_neg c_23, if_neg c_24, if_neg c_25, if_pos c_26, if_pos c_27, hB_29, if_pos c_30]
                  rw [hF]
                  exact KC.reti hx hb hr hlocks hK hP hD hS dX5_low_184 rfl
            · refine lv_aload_n hx hb dX5_low_128 rfl (lv_at hl 2 rfl) ?_
              refine lv_iload_n hx hb dX5_low_129 rfl (lv_at hl 3 rfl) ?_
              refine lv_iload_n hx hb dX5_low_130 rfl (lv_at hl 4 rfl) ?_
              refine lv_iconst (v := 4) hx hb dX5_low_131 (by decide) ?_
              refine lv_icmp_ne (tgt := 139) hx hb dX5_low_132 (by decide) (fun c_31 => ?_) (fun c_31 => ?_)
              · refine lv_iconst (v := -1) hx hb dX5_low_139 (by decide) ?_
                obtain ⟨f_32, a_32, hB_32⟩ : ∃ (f_32 : Nat → Int32) (a_32 : Nat → Nat → Int32), rCount f a p1 (-1 : Int32) = (f_32, a_32) := ⟨_, _, rfl⟩
                have kc_32 := kX5_count l D cI o f a p1 (-1 : Int32) (by first | exact h1 | exact hR | exact hs | exact xin_sh1 h1 | exact xin_a7 _ | exact rNext_nn hR (by assumption) | (unfold vp_in; decide) | decide | exact xin_ng 223 (by decide) (by assumption) (by assumption) | exact xin_le 255 (by decide) (by assumption) (by assumption))
                rw [hB_32] at kc_32
                refine KC.callv (ci := 5) (rest := []) (wt := wR cI o f_32 a_32) (kc_32) (cwV 2 hts gX5_low_X5_count rfl rfl rfl (by decide +kernel) ⟨Nat.le_of_ble_eq_true rfl, Nat.le_of_ble_eq_true rfl⟩) ⟨hx, hb, hml, hown, hts⟩ hK hP hD hS hA rfl rfl rfl [0, 1, 2, 3, 4, 5, 6] [] [0, 1, 2, 3, 4, 5, 6] (by decide) rfl (wr := []) rfl (by decide) (by decide) (by decide) rfl rfl hl.1 rfl (Nat.le_of_ble_eq_true rfl) dX5_low_140 ⟨Nat.zero_le _, Nat.zero_le _⟩ (fun H locs hP hD hS => ?_)
                refine lv_iload_n hx hb dX5_low_143 rfl (lv_at hl 3 rfl) ?_
                refine lv_bipush (v := 6) hx hb dX5_low_144 (by decide) ?_
                refine lv_icmp_ne (tgt := 154) hx hb dX5_low_146 (by decide) (fun c_33 => ?_) (fun c_33 => ?_)
                · refine lv_iconst (v := 5) hx hb dX5_low_154 (by decide) ?_
                  have hF : rLow f a p1 p2 = ((5 : Int32), f_32, a_32) := by simp only [rLow, if_pos c_1, if_neg c_22, if_neg c_23, if_neg c_24, if_neg c_25, if_neg c_26, if_neg c_31, hB_32, if_neg c_33]
                  rw [hF]
                  exact KC.reti hx hb hr hlocks hK hP hD hS dX5_low_155 rfl
                · refine lv_bipush (v := 10) hx hb dX5_low_149 (by decide) ?_
                  refine lv_goto (tgt := 155) hx hb dX5_low_151 (by decide) ?_
                  have hF : rLow f a p1 p2 = ((10 : Int32), f_32, a_32) := by simp only [rLow, if_pos c_1, if_neg c_22, if_neg c_23, if_neg c_24, if_neg c_25, if_neg c_26, if_neg c_31, hB_32, if_pos c_33]
                  rw [hF]
                  exact KC.reti hx hb hr hlocks hK hP hD hS dX5_low_155 rfl
              · refine lv_iconst (v := 1) hx hb dX5_low_135 (by decide) ?_
                refine lv_goto (tgt := 140) hx hb dX5_low_136 (by decide) ?_
                obtain ⟨f_34, a_34, hB_34⟩ : ∃ (f_34 : Nat → Int32) (a_34 : Nat → Nat → Int32), rCount f a p1 (1 : Int32) = (f_34, a_34) := ⟨_, _, rfl⟩
                have kc_34 := kX5_count l D cI o f a p1 (1 : Int32) (by first | exact h1 | exact hR | exact hs | exact xin_sh1 h1 | exact xin_a7 _ | exact rNext_nn hR (by assumption) | (unfold vp_in; decide) | decide | exact xin_ng 223 (by decide) (by assumption) (by assumption) | exact xin_le 255 (by decide) (by assumption) (by assumption))
                rw [hB_34] at kc_34
                refine KC.callv (ci := 5) (rest := []) (wt := wR cI o f_34 a_34) (kc_34) (cwV 2 hts gX5_low_X5_count rfl rfl rfl (by decide +kernel) ⟨Nat.le_of_ble_eq_true rfl, Nat.le_of_ble_eq_true rfl⟩) ⟨hx, hb, hml, hown, hts⟩ hK hP hD hS hA rfl rfl rfl [0, 1, 2, 3, 4, 5, 6] [] [0, 1, 2, 3, 4, 5, 6] (by decide) rfl (wr := []) rfl (by decide) (by decide) (by decide) rfl rfl hl.1 rfl (Nat.le_of_ble_eq_true rfl) dX5_low_140 ⟨Nat.zero_le _, Nat.zero_le _⟩ (fun H locs hP hD hS => ?_)
                refine lv_iload_n hx hb dX5_low_143 rfl (lv_at hl 3 rfl) ?_
                refine lv_bipush (v := 6) hx hb dX5_low_144 (by decide) ?_
                refine lv_icmp_ne (tgt := 154) hx hb dX5_low_146 (by decide) (fun c_35 => ?_) (fun c_35 => ?_)
                · refine lv_iconst (v := 5) hx hb dX5_low_154 (by decide) ?_
                  have hF : rLow f a p1 p2 = ((5 : Int32), f_34, a_34) := by simp only [rLow, if_pos c_1, if_neg c_22, if_neg c_23, if_neg c_24, if_neg c_25, if_neg c_26, if_pos c_31, hB_34, if_neg c_35]
                  rw [hF]
                  exact KC.reti hx hb hr hlocks hK hP hD hS dX5_low_155 rfl
                · refine lv_bipush (v := 10) hx hb dX5_low_149 (by decide) ?_
                  refine lv_goto (tgt := 155) hx hb dX5_low_151 (by decide) ?_
                  have hF : rLow f a p1 p2 = ((10 : Int32), f_34, a_34) := by simp only [rLow, if_pos c_1, if_neg c_22, if_neg c_23, if_neg c_24, if_neg c_25, if_neg c_26, if_pos c_31, hB_34, if_pos c_35]
                  rw [hF]
                  exact KC.reti hx hb hr hlocks hK hP hD hS dX5_low_155 rfl
          · refine lv_aload_n hx hb dX5_low_96 rfl (lv_at hl 2 rfl) ?_
            refine lv_iload_n hx hb dX5_low_97 rfl (lv_at hl 1 rfl) ?_
            refine lv_aload_n hx hb dX5_low_98 rfl (lv_at hl 2 rfl) ?_
            refine lv_iload_n hx hb dX5_low_99 rfl (lv_at hl 1 rfl) ?_
            refine KC.calli (ci := 5) (rest := [.int (p1 >>> ((1 : Int32) &&& 31)), .ref (o 20)]) (wt := wR cI o f a) (kX5_pair l D cI o f a (p1 >>> ((1 : Int32) &&& 31)) (by first | exact h1 | exact hR | exact hs | exact xin_sh1 h1 | exact xin_a7 _ | exact rNext_nn hR (by assumption) | (unfold vp_in; decide) | decide | exact xin_ng 223 (by decide) (by assumption) (by assumption) | exact xin_le 255 (by decide) (by assumption) (by assumption))) (cwV 1 hts gX5_low_X5_pair rfl rfl rfl (by decide +kernel) ⟨Nat.le_of_ble_eq_true rfl, Nat.le_of_ble_eq_true rfl⟩) ⟨hx, hb, hml, hown, hts⟩ hK hP hD hS hA rfl rfl rfl [0, 1, 2, 3, 4, 5, 6] [] [0, 1, 2, 3, 4, 5, 6] (by decide) rfl (wr := []) rfl (by decide) (by decide) (by decide) rfl rfl hl.1 rfl (Nat.le_of_ble_eq_true rfl) dX5_low_100 ⟨Nat.zero_le _, Nat.zero_le _⟩ (fun H locs hP hD hS => ?_)
            refine lv_iload hx hb dX5_low_103 (lv_at hl 0 rfl) ?_
            refine lv_if_eq (tgt := 112) hx hb dX5_low_105 (by decide) (fun c_36 => ?_) (fun c_36 => ?_)
            · exact absurd c_36 (by decide)
            · refine lv_iconst (v := -1) hx hb dX5_low_108 (by decide) ?_
              refine lv_goto (tgt := 113) hx hb dX5_low_109 (by decide) ?_
              refine lv_iadd hx hb dX5_low_113 ?_
              refine lv_ldc (v := 65535) hx hb hown (hts (.constant RX5 32 65535) (by decide +kernel)) dX5_low_114 ?_
              refine lv_iand hx hb dX5_low_116 ?_
              obtain ⟨f_37, a_37, hB_37⟩ : ∃ (f_37 : Nat → Int32) (a_37 : Nat → Nat → Int32), rSetPair f a (p1 >>> ((1 : Int32) &&& 31)) (((rPair f a (p1 >>> ((1 : Int32) &&& 31))) + (-1 : Int32)) &&& (65535 : Int32)) = (f_37, a_37) := ⟨_, _, rfl⟩
              have kc_37 := kX5_setPair l D cI o f a (p1 >>> ((1 : Int32) &&& 31)) (((rPair f a (p1 >>> ((1 : Int32) &&& 31))) + (-1 : Int32)) &&& (65535 : Int32)) (by first | exact h1 | exact hR | exact hs | exact xin_sh1 h1 | exact xin_a7 _ | exact rNext_nn hR (by assumption) | (unfold vp_in; decide) | decide | exact xin_ng 223 (by decide) (by assumption) (by assumption) | exact xin_le 255 (by decide) (by assumption) (by assumption))
              rw [hB_37] at kc_37
              refine KC.callv (ci := 5) (rest := []) (wt := wR cI o f_37 a_37) (kc_37) (cwV 2 hts gX5_low_X5_setPair rfl rfl rfl (by decide +kernel) ⟨Nat.le_of_ble_eq_true rfl, Nat.le_of_ble_eq_true rfl⟩) ⟨hx, hb, hml, hown, hts⟩ hK hP hD hS hA rfl rfl rfl [0, 1, 2, 3, 4, 5, 6] [] [0, 1, 2, 3, 4, 5, 6] (by decide) rfl (wr := []) rfl (by decide) (by decide) (by decide) rfl rfl hl.1 rfl (Nat.le_of_ble_eq_true rfl) dX5_low_117 ⟨Nat.zero_le _, Nat.zero_le _⟩ (fun H locs hP hD hS => ?_)
              refine lv_iconst (v := 5) hx hb dX5_low_120 (by decide) ?_
              have hF : rLow f a p1 p2 = ((5 : Int32), f_37, a_37) := by simp only [rLow, if_pos c_1, if_neg c_22, if_neg c_23, if_neg c_24, if_pos c_25, hB_37]
              rw [hF]
              exact KC.reti hx hb hr hlocks hK hP hD hS dX5_low_121 rfl
        · refine lv_aload_n hx hb dX5_low_85 rfl (lv_at hl 2 rfl) ?_
          refine lv_iload_n hx hb dX5_low_86 rfl (lv_at hl 3 rfl) ?_
          obtain ⟨r_38, f_38, a_38, hB_38⟩ : ∃ (r_38 : Int32) (f_38 : Nat → Int32) (a_38 : Nat → Nat → Int32), rMoved f a p1 = (r_38, f_38, a_38) := ⟨_, _, _, rfl⟩
          have kc_38 := kX5_moved l D cI o f a p1 (by first | exact h1 | exact hR | exact hs | exact xin_sh1 h1 | exact xin_a7 _ | exact rNext_nn hR (by assumption) | (unfold vp_in; decide) | decide | exact xin_ng 223 (by decide) (by assumption) (by assumption) | exact xin_le 255 (by decide) (by assumption) (by assumption))
          rw [hB_38] at kc_38
          refine KC.calli (ci := 5) (rest := []) (wt := wR cI o f_38 a_38) (kc_38) (cwV 1 hts gX5_low_X5_moved rfl rfl rfl (by decide +kernel) ⟨Nat.le_of_ble_eq_true rfl, Nat.le_of_ble_eq_true rfl⟩) ⟨hx, hb, hml, hown, hts⟩ hK hP hD hS hA rfl rfl rfl [0, 1, 2, 3, 4, 5, 6] [] [0, 1, 2, 3, 4, 5, 6] (by decide) rfl (wr := []) rfl (by decide) (by decide) (by decide) rfl rfl hl.1 rfl (Nat.le_of_ble_eq_true rfl) dX5_low_87 ⟨Nat.zero_le _, Nat.zero_le _⟩ (fun H locs hP hD hS => ?_)
          have hF : rLow f a p1 p2 = (r_38, f_38, a_38) := by simp only [rLow, if_pos c_1, if_neg c_22, if_neg c_23, if_pos c_24, hB_38]
          rw [hF]
          exact KC.reti hx hb hr hlocks hK hP hD hS dX5_low_90 rfl
      · refine lv_iload hx hb dX5_low_29 (lv_at hl 0 rfl) ?_
        refine lv_if_eq (tgt := 68) hx hb dX5_low_31 (by decide) (fun c_39 => ?_) (fun c_39 => ?_)
        · exact absurd c_39 (by decide)
        · refine lv_aload_n hx hb dX5_low_34 rfl (lv_at hl 2 rfl) ?_
          refine KC.calli (ci := 5) (rest := []) (wt := wR cI o f a) (kX5_hl l D cI o f a) (cwV 0 hts gX5_low_X5_hl rfl rfl rfl (by decide +kernel) ⟨Nat.le_of_ble_eq_true rfl, Nat.le_of_ble_eq_true rfl⟩) ⟨hx, hb, hml, hown, hts⟩ hK hP hD hS hA rfl rfl rfl [0, 1, 2, 3, 4, 5, 6] [] [0, 1, 2, 3, 4, 5, 6] (by decide) rfl (wr := []) rfl (by decide) (by decide) (by decide) rfl rfl hl.1 rfl (Nat.le_of_ble_eq_true rfl) dX5_low_35 ⟨Nat.zero_le _, Nat.zero_le _⟩ (fun H locs hP hD hS => ?_)
          refine lv_aload_n hx hb dX5_low_38 rfl (lv_at hl 2 rfl) ?_
          refine lv_iload_n hx hb dX5_low_39 rfl (lv_at hl 1 rfl) ?_
          refine KC.calli (ci := 5) (rest := [.int (rHl f a)]) (wt := wR cI o f a) (kX5_pair l D cI o f a (p1 >>> ((1 : Int32) &&& 31)) (by first | exact h1 | exact hR | exact hs | exact xin_sh1 h1 | exact xin_a7 _ | exact rNext_nn hR (by assumption) | (unfold vp_in; decide) | decide | exact xin_ng 223 (by decide) (by assumption) (by assumption) | exact xin_le 255 (by decide) (by assumption) (by assumption))) (cwV 1 hts gX5_low_X5_pair rfl rfl rfl (by decide +kernel) ⟨Nat.le_of_ble_eq_true rfl, Nat.le_of_ble_eq_true rfl⟩) ⟨hx, hb, hml, hown, hts⟩ hK hP hD hS hA rfl rfl rfl [0, 1, 2, 3, 4, 5, 6] [] [0, 1, 2, 3, 4, 5, 6] (by decide) rfl (wr := []) rfl (by decide) (by decide) (by decide) rfl rfl hl.1 rfl (Nat.le_of_ble_eq_true rfl) dX5_low_40 ⟨Nat.zero_le _, Nat.zero_le _⟩ (fun H locs hP hD hS => ?_)
          refine lv_iadd hx hb dX5_low_43 ?_
          refine lv_istore (lv' := [(5, .int _), (4, .int _), (3, .int _), (0, .ref _), (1, .int _), (2, .int _)]) hx hb dX5_low_44 hl (by decide) rfl (fun ls hl => ?_)
          refine lv_aload_n hx hb dX5_low_46 rfl (lv_at hl 3 rfl) ?_
          refine lv_iload hx hb dX5_low_47 (lv_at hl 0 rfl) ?_
          refine lv_bipush (v := 16) hx hb dX5_low_49 (by decide) ?_
          refine lv_ishr hx hb dX5_low_51 ?_
          refine pu_R_f16 (v := ((rHl f a) + (rPair f a (p1 >>> ((1 : Int32) &&& 31)))) >>> ((16 : Int32) &&& 31)) hx hb hts hi5 hown hK hP hD hS (hts (.fieldLink RX5 66 "InvaderBoardModel" "carry" "I") (by decide +kernel)) dX5_low_52 (fun H locs hP hD hS => ?_)
          refine lv_aload_n hx hb dX5_low_55 rfl (lv_at hl 3 rfl) ?_
          refine lv_iconst (v := 2) hx hb dX5_low_56 (by decide) ?_
          refine lv_iload hx hb dX5_low_57 (lv_at hl 0 rfl) ?_
          refine lv_ldc (v := 65535) hx hb hown (hts (.constant RX5 32 65535) (by decide +kernel)) dX5_low_59 ?_
          refine lv_iand hx hb dX5_low_61 ?_
          obtain ⟨f_40, a_40, hB_40⟩ : ∃ (f_40 : Nat → Int32) (a_40 : Nat → Nat → Int32), rSetPair (upd f 16 (((rHl f a) + (rPair f a (p1 >>> ((1 : Int32) &&& 31)))) >>> ((16 : Int32) &&& 31))) a (2 : Int32) (((rHl f a) + (rPair f a (p1 >>> ((1 : Int32) &&& 31)))) &&& (65535 : Int32)) = (f_40, a_40) := ⟨_, _, rfl⟩
          have kc_40 := kX5_setPair l D cI o (upd f 16 (((rHl f a) + (rPair f a (p1 >>> ((1 : Int32) &&& 31)))) >>> ((16 : Int32) &&& 31))) a (2 : Int32) (((rHl f a) + (rPair f a (p1 >>> ((1 : Int32) &&& 31)))) &&& (65535 : Int32)) (by first | exact h1 | exact hR | exact hs | exact xin_sh1 h1 | exact xin_a7 _ | exact rNext_nn hR (by assumption) | (unfold vp_in; decide) | decide | exact xin_ng 223 (by decide) (by assumption) (by assumption) | exact xin_le 255 (by decide) (by assumption) (by assumption))
          rw [hB_40] at kc_40
          refine KC.callv (ci := 5) (rest := []) (wt := wR cI o f_40 a_40) (kc_40) (cwV 2 hts gX5_low_X5_setPair rfl rfl rfl (by decide +kernel) ⟨Nat.le_of_ble_eq_true rfl, Nat.le_of_ble_eq_true rfl⟩) ⟨hx, hb, hml, hown, hts⟩ hK hP hD hS hA rfl rfl rfl [0, 1, 2, 3, 4, 5, 6] [] [0, 1, 2, 3, 4, 5, 6] (by decide) rfl (wr := []) rfl (by decide) (by decide) (by decide) rfl rfl hl.1 rfl (Nat.le_of_ble_eq_true rfl) dX5_low_62 ⟨Nat.zero_le _, Nat.zero_le _⟩ (fun H locs hP hD hS => ?_)
          refine lv_goto (tgt := 77) hx hb dX5_low_65 (by decide) ?_
          refine lv_bipush (v := 10) hx hb dX5_low_77 (by decide) ?_
          have hF : rLow f a p1 p2 = ((10 : Int32), f_40, a_40) := by simp only [rLow, if_pos c_1, if_neg c_22, if_pos c_23, hB_40]
          rw [hF]
          exact KC.reti hx hb hr hlocks hK hP hD hS dX5_low_79 rfl
    · refine lv_iconst (v := 4) hx hb dX5_low_22 (by decide) ?_
      have hF : rLow f a p1 p2 = ((4 : Int32), f, a) := by simp only [rLow, if_pos c_1, if_pos c_22]
      rw [hF]
      exact KC.reti hx hb hr hlocks hK hP hD hS dX5_low_23 rfl
def rCall (f : Nat → Int32) (a : Nat → Nat → Int32) (p1 : Int32) : Int32 × (Nat → Int32) × (Nat → Nat → Int32) :=
  (match rPush f a (f 1) with
  | (f_1, a_1) => ((17 : Int32), upd f_1 1 p1, a_1))
set_option maxHeartbeats 4000000 in
set_option maxRecDepth 100000 in
theorem kX5_call (l : Launch) (D : va_G) (cI : ClassId) (o : Nat → Nat) (f : Nat → Int32) (a : Nat → Nat → Int32) (p1 : Int32) : KC l yX5_call wsX5_call 2 [.ref (o 20), .int p1] D cI (wR cI o f a) (wR cI o ((rCall f a p1).2.1) ((rCall f a p1).2.2)) (some (.int (rCall f a p1).1)) := by
  refine KC.of (cc := cX5_call) (maxL := 2) (by decide) rfl (Nat.le_of_ble_eq_true rfl) ?_
  intro p e s m below meth c A hx hb hr hts hown hlocks hml hK hP hD hS hA ls hl
  have hl : lv_has ls 2 [(0, .ref (o 20)), (1, .int p1)] := hl
  have hown : s.vm.findClass RX5 = some m.cls := hown
  have hi5 : ∀ w ∈ u_ws RX5 TX5 24, w ∈ wsX5_call := by decide +kernel
  refine lv_aload_n hx hb dX5_call_0 rfl (lv_at hl 0 rfl) ?_
  refine lv_aload_n hx hb dX5_call_1 rfl (lv_at hl 0 rfl) ?_
  refine va_get (ci := 5) (v := .int (f 1)) (C := RX5) (T := TX5) (N := 24) hx hb hts hi5 hown hK hP 0 rfl rfl 5 (by decide) (hts (.fieldLink RX5 33 "InvaderBoardModel" "pc" "I") (by decide +kernel)) (fun _ h9 => h9) rfl dX5_call_2 ?_
  obtain ⟨f_1, a_1, hB_1⟩ : ∃ (f_1 : Nat → Int32) (a_1 : Nat → Nat → Int32), rPush f a (f 1) = (f_1, a_1) := ⟨_, _, rfl⟩
  have kc_1 := kX5_push l D cI o f a (f 1)
  rw [hB_1] at kc_1
  refine KC.callv (ci := 5) (rest := []) (wt := wR cI o f_1 a_1) (kc_1) (cwV 1 hts gX5_call_X5_push rfl rfl rfl (by decide +kernel) ⟨Nat.le_of_ble_eq_true rfl, Nat.le_of_ble_eq_true rfl⟩) ⟨hx, hb, hml, hown, hts⟩ hK hP hD hS hA rfl rfl rfl [0, 1, 2, 3, 4, 5, 6] [] [0, 1, 2, 3, 4, 5, 6] (by decide) rfl (wr := []) rfl (by decide) (by decide) (by decide) rfl rfl hl.1 rfl (Nat.le_of_ble_eq_true rfl) dX5_call_5 ⟨Nat.zero_le _, Nat.zero_le _⟩ (fun H locs hP hD hS => ?_)
  refine lv_aload_n hx hb dX5_call_8 rfl (lv_at hl 0 rfl) ?_
  refine lv_iload_n hx hb dX5_call_9 rfl (lv_at hl 1 rfl) ?_
  refine pu_R_f1 (v := p1) hx hb hts hi5 hown hK hP hD hS (hts (.fieldLink RX5 33 "InvaderBoardModel" "pc" "I") (by decide +kernel)) dX5_call_10 (fun H locs hP hD hS => ?_)
  refine lv_bipush (v := 17) hx hb dX5_call_13 (by decide) ?_
  have hF : rCall f a p1 = ((17 : Int32), upd f_1 1 p1, a_1) := by simp only [rCall, hB_1]
  rw [hF]
  exact KC.reti hx hb hr hlocks hK hP hD hS dX5_call_15 rfl
def rPopped (f : Nat → Int32) (a : Nat → Nat → Int32) (p1 : Int32) : Int32 × (Nat → Int32) × (Nat → Nat → Int32) :=
  (match rPop f a with
  | (r_1, f_1) => if p1 = (3 : Int32) then ((10 : Int32), rSetFlags f_1 (ua a 2 (upd (a 2) (7 : Int32).toNatClampNeg (r_1 >>> ((8 : Int32) &&& 31)))) r_1, ua a 2 (upd (a 2) (7 : Int32).toNatClampNeg (r_1 >>> ((8 : Int32) &&& 31))))
    else (match rSetPair f_1 a p1 r_1 with
      | (f_3, a_3) => ((10 : Int32), f_3, a_3)))
set_option maxHeartbeats 4000000 in
set_option maxRecDepth 100000 in
theorem kX5_popped (l : Launch) (D : va_G) (cI : ClassId) (o : Nat → Nat) (f : Nat → Int32) (a : Nat → Nat → Int32) (p1 : Int32) (h1 : vp_in p1 4) : KC l yX5_popped wsX5_popped 2 [.ref (o 20), .int p1] D cI (wR cI o f a) (wR cI o ((rPopped f a p1).2.1) ((rPopped f a p1).2.2)) (some (.int (rPopped f a p1).1)) := by
  refine KC.of (cc := cX5_popped) (maxL := 3) (by decide) rfl (Nat.le_of_ble_eq_true rfl) ?_
  intro p e s m below meth c A hx hb hr hts hown hlocks hml hK hP hD hS hA ls hl
  have hl : lv_has ls 3 [(0, .ref (o 20)), (1, .int p1)] := hl
  have hown : s.vm.findClass RX5 = some m.cls := hown
  have hi5 : ∀ w ∈ u_ws RX5 TX5 24, w ∈ wsX5_popped := by decide +kernel
  refine lv_aload_n hx hb dX5_popped_0 rfl (lv_at hl 0 rfl) ?_
  obtain ⟨r_1, f_1, hB_1⟩ : ∃ (r_1 : Int32) (f_1 : Nat → Int32), rPop f a = (r_1, f_1) := ⟨_, _, rfl⟩
  have kc_1 := kX5_pop l D cI o f a
  rw [hB_1] at kc_1
  refine KC.calli (ci := 5) (rest := []) (wt := wR cI o f_1 a) (kc_1) (cwV 0 hts gX5_popped_X5_pop rfl rfl rfl (by decide +kernel) ⟨Nat.le_of_ble_eq_true rfl, Nat.le_of_ble_eq_true rfl⟩) ⟨hx, hb, hml, hown, hts⟩ hK hP hD hS hA rfl rfl rfl [0, 1, 2, 3, 4, 5, 6] [] [0, 1, 2, 3, 4, 5, 6] (by decide) rfl (wr := []) rfl (by decide) (by decide) (by decide) rfl rfl hl.1 rfl (Nat.le_of_ble_eq_true rfl) dX5_popped_1 ⟨Nat.zero_le _, Nat.zero_le _⟩ (fun H locs hP hD hS => ?_)
  refine lv_istore_n (lv' := [(2, .int _), (0, .ref _), (1, .int _)]) hx hb dX5_popped_4 rfl hl (by decide) rfl (fun ls hl => ?_)
  refine lv_iload_n hx hb dX5_popped_5 rfl (lv_at hl 2 rfl) ?_
  refine lv_iconst (v := 3) hx hb dX5_popped_6 (by decide) ?_
  refine lv_icmp_ne (tgt := 29) hx hb dX5_popped_7 (by decide) (fun c_2 => ?_) (fun c_2 => ?_)
  · refine lv_aload_n hx hb dX5_popped_29 rfl (lv_at hl 1 rfl) ?_
    refine lv_iload_n hx hb dX5_popped_30 rfl (lv_at hl 2 rfl) ?_
    refine lv_iload_n hx hb dX5_popped_31 rfl (lv_at hl 0 rfl) ?_
    obtain ⟨f_3, a_3, hB_3⟩ : ∃ (f_3 : Nat → Int32) (a_3 : Nat → Nat → Int32), rSetPair f_1 a p1 r_1 = (f_3, a_3) := ⟨_, _, rfl⟩
    have kc_3 := kX5_setPair l D cI o f_1 a p1 r_1 (by first | exact h1 | exact hR | exact hs | exact xin_sh1 h1 | exact xin_a7 _ | exact rNext_nn hR (by assumption) | (unfold vp_in; decide) | decide | exact xin_ng 223 (by decide) (by assumption) (by assumption) | exact xin_le 255 (by decide) (by assumption) (by assumption))
    rw [hB_3] at kc_3
    refine KC.callv (ci := 5) (rest := []) (wt := wR cI o f_3 a_3) (kc_3) (cwV 2 hts gX5_popped_X5_setPair rfl rfl rfl (by decide +kernel) ⟨Nat.le_of_ble_eq_true rfl, Nat.le_of_ble_eq_true rfl⟩) ⟨hx, hb, hml, hown, hts⟩ hK hP hD hS hA rfl rfl rfl [0, 1, 2, 3, 4, 5, 6] [] [0, 1, 2, 3, 4, 5, 6] (by decide) rfl (wr := []) rfl (by decide) (by decide) (by decide) rfl rfl hl.1 rfl (Nat.le_of_ble_eq_true rfl) dX5_popped_32 ⟨Nat.zero_le _, Nat.zero_le _⟩ (fun H locs hP hD hS => ?_)
    refine lv_bipush (v := 10) hx hb dX5_popped_35 (by decide) ?_
    have hF : rPopped f a p1 = ((10 : Int32), f_3, a_3) := by simp only [rPopped, hB_1, if_neg c_2, hB_3]
    rw [hF]
    exact KC.reti hx hb hr hlocks hK hP hD hS dX5_popped_37 rfl
  · refine lv_aload_n hx hb dX5_popped_10 rfl (lv_at hl 1 rfl) ?_
    refine va_get (ci := 5) (v := .ref (o 23)) (C := RX5) (T := TX5) (N := 24) hx hb hts hi5 hown hK hP 0 rfl rfl 3 (by decide) (hts (.fieldLink RX5 16 "InvaderBoardModel" "reg" "[I") (by decide +kernel)) (fun _ h9 => h9) rfl dX5_popped_11 ?_
    refine lv_bipush (v := 7) hx hb dX5_popped_14 (by decide) ?_
    refine lv_iload_n hx hb dX5_popped_16 rfl (lv_at hl 0 rfl) ?_
    refine lv_bipush (v := 8) hx hb dX5_popped_17 (by decide) ?_
    refine lv_ishr hx hb dX5_popped_19 ?_
    refine pu_R_a2 hx hb hK hP hD hS (by unfold vp_in; decide) dX5_popped_20 (fun H locs hP hD hS => ?_)
    refine lv_aload_n hx hb dX5_popped_21 rfl (lv_at hl 1 rfl) ?_
    refine lv_iload_n hx hb dX5_popped_22 rfl (lv_at hl 0 rfl) ?_
    refine KC.callv (ci := 5) (rest := []) (wt := wR cI o (rSetFlags f_1 (ua a 2 (upd (a 2) (7 : Int32).toNatClampNeg (r_1 >>> ((8 : Int32) &&& 31)))) r_1) (ua a 2 (upd (a 2) (7 : Int32).toNatClampNeg (r_1 >>> ((8 : Int32) &&& 31))))) (kX5_setFlags l D cI o f_1 (ua a 2 (upd (a 2) (7 : Int32).toNatClampNeg (r_1 >>> ((8 : Int32) &&& 31)))) r_1) (cwV 1 hts gX5_popped_X5_setFlags rfl rfl rfl (by decide +kernel) ⟨Nat.le_of_ble_eq_true rfl, Nat.le_of_ble_eq_true rfl⟩) ⟨hx, hb, hml, hown, hts⟩ hK hP hD hS hA rfl rfl rfl [0, 1, 2, 3, 4, 5, 6] [] [0, 1, 2, 3, 4, 5, 6] (by decide) rfl (wr := []) rfl (by decide) (by decide) (by decide) rfl rfl hl.1 rfl (Nat.le_of_ble_eq_true rfl) dX5_popped_23 ⟨Nat.zero_le _, Nat.zero_le _⟩ (fun H locs hP hD hS => ?_)
    refine lv_goto (tgt := 35) hx hb dX5_popped_26 (by decide) ?_
    refine lv_bipush (v := 10) hx hb dX5_popped_35 (by decide) ?_
    have hF : rPopped f a p1 = ((10 : Int32), rSetFlags f_1 (ua a 2 (upd (a 2) (7 : Int32).toNatClampNeg (r_1 >>> ((8 : Int32) &&& 31)))) r_1, ua a 2 (upd (a 2) (7 : Int32).toNatClampNeg (r_1 >>> ((8 : Int32) &&& 31)))) := by simp only [rPopped, hB_1, if_pos c_2]
    rw [hF]
    exact KC.reti hx hb hr hlocks hK hP hD hS dX5_popped_37 rfl
def rOdd (f : Nat → Int32) (a : Nat → Nat → Int32) (p1 : Int32) : Int32 × (Nat → Int32) :=
  if (4 : Int32) ≤ p1 then if p1 = (5 : Int32) then ((5 : Int32), upd f 1 (rHl f a))
    else ((5 : Int32), upd f 0 (rHl f a))
  else (match rPop f a with
    | (r_3, f_3) => ((10 : Int32), upd f_3 1 r_3))
set_option maxHeartbeats 4000000 in
set_option maxRecDepth 100000 in
theorem kX5_odd (l : Launch) (D : va_G) (cI : ClassId) (o : Nat → Nat) (f : Nat → Int32) (a : Nat → Nat → Int32) (p1 : Int32) : KC l yX5_odd wsX5_odd 2 [.ref (o 20), .int p1] D cI (wR cI o f a) (wR cI o ((rOdd f a p1).2) a) (some (.int (rOdd f a p1).1)) := by
  refine KC.of (cc := cX5_odd) (maxL := 2) (by decide) rfl (Nat.le_of_ble_eq_true rfl) ?_
  intro p e s m below meth c A hx hb hr hts hown hlocks hml hK hP hD hS hA ls hl
  have hl : lv_has ls 2 [(0, .ref (o 20)), (1, .int p1)] := hl
  have hown : s.vm.findClass RX5 = some m.cls := hown
  have hi5 : ∀ w ∈ u_ws RX5 TX5 24, w ∈ wsX5_odd := by decide +kernel
  refine lv_iload_n hx hb dX5_odd_0 rfl (lv_at hl 1 rfl) ?_
  refine lv_iconst (v := 4) hx hb dX5_odd_1 (by decide) ?_
  refine lv_icmp_ge (tgt := 16) hx hb dX5_odd_2 (by decide) (fun c_1 => ?_) (fun c_1 => ?_)
  · refine lv_iload_n hx hb dX5_odd_16 rfl (lv_at hl 1 rfl) ?_
    refine lv_iconst (v := 5) hx hb dX5_odd_17 (by decide) ?_
    refine lv_icmp_ne (tgt := 32) hx hb dX5_odd_18 (by decide) (fun c_2 => ?_) (fun c_2 => ?_)
    · refine lv_aload_n hx hb dX5_odd_32 rfl (lv_at hl 0 rfl) ?_
      refine lv_aload_n hx hb dX5_odd_33 rfl (lv_at hl 0 rfl) ?_
      refine KC.calli (ci := 5) (rest := [.ref (o 20)]) (wt := wR cI o f a) (kX5_hl l D cI o f a) (cwV 0 hts gX5_odd_X5_hl rfl rfl rfl (by decide +kernel) ⟨Nat.le_of_ble_eq_true rfl, Nat.le_of_ble_eq_true rfl⟩) ⟨hx, hb, hml, hown, hts⟩ hK hP hD hS hA rfl rfl rfl [0, 1, 2, 3, 4, 5, 6] [] [0, 1, 2, 3, 4, 5, 6] (by decide) rfl (wr := []) rfl (by decide) (by decide) (by decide) rfl rfl hl.1 rfl (Nat.le_of_ble_eq_true rfl) dX5_odd_34 ⟨Nat.zero_le _, Nat.zero_le _⟩ (fun H locs hP hD hS => ?_)
      refine pu_R_f0 (v := rHl f a) hx hb hts hi5 hown hK hP hD hS (hts (.fieldLink RX5 44 "InvaderBoardModel" "sp" "I") (by decide +kernel)) dX5_odd_37 (fun H locs hP hD hS => ?_)
      refine lv_iconst (v := 5) hx hb dX5_odd_40 (by decide) ?_
      have hF : rOdd f a p1 = ((5 : Int32), upd f 0 (rHl f a)) := by simp only [rOdd, if_pos c_1, if_neg c_2]
      rw [hF]
      exact KC.reti hx hb hr hlocks hK hP hD hS dX5_odd_41 rfl
    · refine lv_aload_n hx hb dX5_odd_21 rfl (lv_at hl 0 rfl) ?_
      refine lv_aload_n hx hb dX5_odd_22 rfl (lv_at hl 0 rfl) ?_
      refine KC.calli (ci := 5) (rest := [.ref (o 20)]) (wt := wR cI o f a) (kX5_hl l D cI o f a) (cwV 0 hts gX5_odd_X5_hl rfl rfl rfl (by decide +kernel) ⟨Nat.le_of_ble_eq_true rfl, Nat.le_of_ble_eq_true rfl⟩) ⟨hx, hb, hml, hown, hts⟩ hK hP hD hS hA rfl rfl rfl [0, 1, 2, 3, 4, 5, 6] [] [0, 1, 2, 3, 4, 5, 6] (by decide) rfl (wr := []) rfl (by decide) (by decide) (by decide) rfl rfl hl.1 rfl (Nat.le_of_ble_eq_true rfl) dX5_odd_23 ⟨Nat.zero_le _, Nat.zero_le _⟩ (fun H locs hP hD hS => ?_)
      refine pu_R_f1 (v := rHl f a) hx hb hts hi5 hown hK hP hD hS (hts (.fieldLink RX5 33 "InvaderBoardModel" "pc" "I") (by decide +kernel)) dX5_odd_26 (fun H locs hP hD hS => ?_)
      refine lv_goto (tgt := 40) hx hb dX5_odd_29 (by decide) ?_
      refine lv_iconst (v := 5) hx hb dX5_odd_40 (by decide) ?_
      have hF : rOdd f a p1 = ((5 : Int32), upd f 1 (rHl f a)) := by simp only [rOdd, if_pos c_1, if_pos c_2]
      rw [hF]
      exact KC.reti hx hb hr hlocks hK hP hD hS dX5_odd_41 rfl
  · refine lv_aload_n hx hb dX5_odd_5 rfl (lv_at hl 0 rfl) ?_
    refine lv_aload_n hx hb dX5_odd_6 rfl (lv_at hl 0 rfl) ?_
    obtain ⟨r_3, f_3, hB_3⟩ : ∃ (r_3 : Int32) (f_3 : Nat → Int32), rPop f a = (r_3, f_3) := ⟨_, _, rfl⟩
    have kc_3 := kX5_pop l D cI o f a
    rw [hB_3] at kc_3
    refine KC.calli (ci := 5) (rest := [.ref (o 20)]) (wt := wR cI o f_3 a) (kc_3) (cwV 0 hts gX5_odd_X5_pop rfl rfl rfl (by decide +kernel) ⟨Nat.le_of_ble_eq_true rfl, Nat.le_of_ble_eq_true rfl⟩) ⟨hx, hb, hml, hown, hts⟩ hK hP hD hS hA rfl rfl rfl [0, 1, 2, 3, 4, 5, 6] [] [0, 1, 2, 3, 4, 5, 6] (by decide) rfl (wr := []) rfl (by decide) (by decide) (by decide) rfl rfl hl.1 rfl (Nat.le_of_ble_eq_true rfl) dX5_odd_7 ⟨Nat.zero_le _, Nat.zero_le _⟩ (fun H locs hP hD hS => ?_)
    refine pu_R_f1 (v := r_3) hx hb hts hi5 hown hK hP hD hS (hts (.fieldLink RX5 33 "InvaderBoardModel" "pc" "I") (by decide +kernel)) dX5_odd_10 (fun H locs hP hD hS => ?_)
    refine lv_bipush (v := 10) hx hb dX5_odd_13 (by decide) ?_
    have hF : rOdd f a p1 = ((10 : Int32), upd f_3 1 r_3) := by simp only [rOdd, if_neg c_1, hB_3]
    rw [hF]
    exact KC.reti hx hb hr hlocks hK hP hD hS dX5_odd_15 rfl
def rIn (f : Nat → Int32) (a : Nat → Nat → Int32) (p1 : Int32) : Int32 :=
  if (3 : Int32) ≤ p1 then if p1 = (3 : Int32) then (((f 5) <<< ((f 6) &&& 31)) >>> ((8 : Int32) &&& 31)) &&& (255 : Int32)
    else (0 : Int32)
  else (a 3) p1.toNatClampNeg
set_option maxHeartbeats 4000000 in
set_option maxRecDepth 100000 in
theorem kX5_in (l : Launch) (D : va_G) (cI : ClassId) (o : Nat → Nat) (f : Nat → Int32) (a : Nat → Nat → Int32) (p1 : Int32) (h1 : ¬ p1 < 0) : KC l yX5_in wsX5_in 0 [.ref (o 20), .int p1] D cI (wR cI o f a) (wR cI o f a) (some (.int (rIn f a p1))) := by
  refine KC.of (cc := cX5_in) (maxL := 2) (by decide) rfl (Nat.le_of_ble_eq_true rfl) ?_
  intro p e s m below meth c A hx hb hr hts hown hlocks hml hK hP hD hS hA ls hl
  have hl : lv_has ls 2 [(0, .ref (o 20)), (1, .int p1)] := hl
  have hown : s.vm.findClass RX5 = some m.cls := hown
  have hi5 : ∀ w ∈ u_ws RX5 TX5 24, w ∈ wsX5_in := by decide +kernel
  refine lv_iload_n hx hb dX5_in_0 rfl (lv_at hl 1 rfl) ?_
  refine lv_iconst (v := 3) hx hb dX5_in_1 (by decide) ?_
  refine lv_icmp_ge (tgt := 14) hx hb dX5_in_2 (by decide) (fun c_1 => ?_) (fun c_1 => ?_)
  · refine lv_iload_n hx hb dX5_in_14 rfl (lv_at hl 1 rfl) ?_
    refine lv_iconst (v := 3) hx hb dX5_in_15 (by decide) ?_
    refine lv_icmp_ne (tgt := 38) hx hb dX5_in_16 (by decide) (fun c_2 => ?_) (fun c_2 => ?_)
    · refine lv_iconst (v := 0) hx hb dX5_in_38 (by decide) ?_
      have hF : rIn f a p1 = (0 : Int32) := by simp only [rIn, if_pos c_1, if_neg c_2]
      rw [hF]
      exact KC.reti hx hb hr hlocks hK hP hD hS dX5_in_39 rfl
    · refine lv_aload_n hx hb dX5_in_19 rfl (lv_at hl 0 rfl) ?_
      refine va_get (ci := 5) (v := .int (f 5)) (C := RX5) (T := TX5) (N := 24) hx hb hts hi5 hown hK hP 0 rfl rfl 17 (by decide) (hts (.fieldLink RX5 157 "InvaderBoardModel" "shifter" "I") (by decide +kernel)) (fun _ h9 => h9) rfl dX5_in_20 ?_
      refine lv_aload_n hx hb dX5_in_23 rfl (lv_at hl 0 rfl) ?_
      refine va_get (ci := 5) (v := .int (f 6)) (C := RX5) (T := TX5) (N := 24) hx hb hts hi5 hown hK hP 0 rfl rfl 18 (by decide) (hts (.fieldLink RX5 160 "InvaderBoardModel" "offset" "I") (by decide +kernel)) (fun _ h9 => h9) rfl dX5_in_24 ?_
      refine lv_ishl hx hb dX5_in_27 ?_
      refine lv_bipush (v := 8) hx hb dX5_in_28 (by decide) ?_
      refine lv_ishr hx hb dX5_in_30 ?_
      refine lv_sipush (v := 255) hx hb dX5_in_31 (by decide) ?_
      refine lv_iand hx hb dX5_in_34 ?_
      refine lv_goto (tgt := 39) hx hb dX5_in_35 (by decide) ?_
      have hF : rIn f a p1 = (((f 5) <<< ((f 6) &&& 31)) >>> ((8 : Int32) &&& 31)) &&& (255 : Int32) := by simp only [rIn, if_pos c_1, if_pos c_2]
      rw [hF]
      exact KC.reti hx hb hr hlocks hK hP hD hS dX5_in_39 rfl
  · refine lv_aload_n hx hb dX5_in_5 rfl (lv_at hl 0 rfl) ?_
    refine va_get (ci := 5) (v := .ref (o 24)) (C := RX5) (T := TX5) (N := 24) hx hb hts hi5 hown hK hP 0 rfl rfl 16 (by decide) (hts (.fieldLink RX5 19 "InvaderBoardModel" "inputs" "[I") (by decide +kernel)) (fun _ h9 => h9) rfl dX5_in_6 ?_
    refine lv_iload_n hx hb dX5_in_9 rfl (lv_at hl 1 rfl) ?_
    refine va_iald (f := a 3) hx hb hK hP 4 0 rfl rfl (by first | assumption | exact h1 | exact xin_low _ (by assumption) | exact xin_rom (by assumption) | exact xin_p2 h1 (by assumption) | exact xin_p21 h1 (by assumption) | exact xin 3 (by decide) (by assumption) (by assumption) | exact xin_le 2 (by decide) (by assumption) (by assumption) | exact xin_bit h1 h2) dX5_in_10 ?_
    refine lv_goto (tgt := 39) hx hb dX5_in_11 (by decide) ?_
    have hF : rIn f a p1 = (a 3) p1.toNatClampNeg := by simp only [rIn, if_neg c_1]
    rw [hF]
    exact KC.reti hx hb hr hlocks hK hP hD hS dX5_in_39 rfl
def rEdges (a : Nat → Nat → Int32) (p2 q : Int32) : Nat → Nat → (Nat → Int32) → Nat → Int32
  | 0, _, r => r
  | n + 1, k, r => rEdges a p2 q n (k + 1) (upd r (((8 : Int32) * q) + (nI k)).toNatClampNeg ((r (((8 : Int32) * q) + (nI k)).toNatClampNeg) + (((p2 >>> ((nI k) &&& 31)) &&& ((((a 4) q.toNatClampNeg) ^^^ (-1 : Int32)) >>> ((nI k) &&& 31))) &&& (1 : Int32))))
set_option maxHeartbeats 4000000 in
set_option maxRecDepth 100000 in
theorem lpX5_out {l : Launch} {D : va_G} {cI : ClassId} {o : Nat → Nat} {f : Nat → Int32} {a : Nat → Nat → Int32} {p1 p2 q : Int32} {p : Program} {e : Env} {s : State} {m : MethodId} {args : Array Value} {below : List Frame} {meth : Method} {c : Code} {A : Nat → Prop} (hx : p.tables.exec = Jvm.exec) (hb : c.code = cX5_out) (hr : meth.sig.returnType = none) (hts : ∀ w ∈ wsX5_out, w.before args s = true) (hown : s.vm.findClass RX5 = some m.cls) (hlocks : meth.locks = false) (hml : c.maxLocals = 5) (hK : va_K D vwCl [(cI, .int)] s) (hA : ∀ q : Nat, s.heap.size ≤ q → A q) (hq : vp_in q 2) :
    ∀ (n k : Nat), k + n = 8 → ∀ (r : Nat → Int32), ∀ (H : Heap) (locs : List Loc), va_P D vwCl (wR cI o f (ua a 5 r)) H → va_D A (wR cI o f (ua a 5 r)) → va_S A s.heap H locs → ∀ ls : Array Slot, lv_has ls 5 [(4, .int (nI k)), (3, .int q), (0, .ref (o 20)), (1, .int p1), (2, .int p2)] → W p l e (rmD 0) s m args below meth c H locs 0 0 (MQ below (kq_ D cI none (wR cI o f (ua (ua a 5 (rEdges a p2 q n k r)) 4 (upd (a 4) q.toNatClampNeg p2))) A) args s 0 0 A) (F0 m 40 ls []) := by
  have hi5 : ∀ w ∈ u_ws RX5 TX5 24, w ∈ wsX5_out := by decide +kernel
  intro n
  induction n with
  | zero =>
    intro k hk r H locs hP hD hS ls hl
    obtain rfl : k = 8 := by omega
    refine lv_iload hx hb dX5_out_40 (lv_at hl 0 rfl) ?_
    refine lv_bipush (v := 8) hx hb dX5_out_42 (by decide) ?_
    refine lv_icmp_ge (tgt := 86) hx hb dX5_out_44 (by decide) (fun c_1 => ?_) (fun c_1 => ?_)
    · refine lv_aload_n hx hb dX5_out_86 rfl (lv_at hl 2 rfl) ?_
      refine va_get (ci := 5) (v := .ref (o 25)) (C := RX5) (T := TX5) (N := 24) hx hb hts hi5 hown hK hP 0 rfl rfl 19 (by decide) (hts (.fieldLink RX5 22 "InvaderBoardModel" "latch" "[I") (by decide +kernel)) (fun _ h9 => h9) rfl dX5_out_87 ?_
      refine lv_iload_n hx hb dX5_out_90 rfl (lv_at hl 1 rfl) ?_
      refine lv_iload_n hx hb dX5_out_91 rfl (lv_at hl 4 rfl) ?_
      refine pu_R_a4 hx hb hK hP hD hS hq dX5_out_92 (fun H locs hP hD hS => ?_)
      refine lv_goto (tgt := 131) hx hb dX5_out_93 (by decide) ?_
      exact KC.retv hx hb hr hlocks hK hP hD hS dX5_out_131
    · exact absurd (show (8 : Int32) ≤ nI 8 by decide) c_1
  | succ n ih =>
    intro k hk r H locs hP hD hS ls hl
    refine lv_iload hx hb dX5_out_40 (lv_at hl 0 rfl) ?_
    refine lv_bipush (v := 8) hx hb dX5_out_42 (by decide) ?_
    refine lv_icmp_ge (tgt := 86) hx hb dX5_out_44 (by decide) (fun c_2 => ?_) (fun c_2 => ?_)
    · exact absurd c_2 (show ¬ nI 8 ≤ nI k from nI_ge (by omega) (by decide))
    · refine lv_aload_n hx hb dX5_out_47 rfl (lv_at hl 2 rfl) ?_
      refine va_get (ci := 5) (v := .ref (o 26)) (C := RX5) (T := TX5) (N := 24) hx hb hts hi5 hown hK hP 0 rfl rfl 20 (by decide) (hts (.fieldLink RX5 25 "InvaderBoardModel" "edges" "[I") (by decide +kernel)) (fun _ h9 => h9) rfl dX5_out_48 ?_
      refine lv_bipush (v := 8) hx hb dX5_out_51 (by decide) ?_
      refine lv_iload_n hx hb dX5_out_53 rfl (lv_at hl 1 rfl) ?_
      refine lv_imul hx hb dX5_out_54 ?_
      refine lv_iload hx hb dX5_out_55 (lv_at hl 0 rfl) ?_
      refine lv_iadd hx hb dX5_out_57 ?_
      refine lv_dup2_11 hx hb dX5_out_58 rfl rfl ?_
      refine va_iald (f := r) hx hb hK hP 6 0 rfl rfl (xin_e16 hq k (by omega)) dX5_out_59 ?_
      refine lv_iload_n hx hb dX5_out_60 rfl (lv_at hl 4 rfl) ?_
      refine lv_iload hx hb dX5_out_61 (lv_at hl 0 rfl) ?_
      refine lv_ishr hx hb dX5_out_63 ?_
      refine lv_aload_n hx hb dX5_out_64 rfl (lv_at hl 2 rfl) ?_
      refine va_get (ci := 5) (v := .ref (o 25)) (C := RX5) (T := TX5) (N := 24) hx hb hts hi5 hown hK hP 0 rfl rfl 19 (by decide) (hts (.fieldLink RX5 22 "InvaderBoardModel" "latch" "[I") (by decide +kernel)) (fun _ h9 => h9) rfl dX5_out_65 ?_
      refine lv_iload_n hx hb dX5_out_68 rfl (lv_at hl 1 rfl) ?_
      refine va_iald (f := a 4) hx hb hK hP 5 0 rfl rfl hq dX5_out_69 ?_
      refine lv_iconst (v := -1) hx hb dX5_out_70 (by decide) ?_
      refine lv_ixor hx hb dX5_out_71 ?_
      refine lv_iload hx hb dX5_out_72 (lv_at hl 0 rfl) ?_
      refine lv_ishr hx hb dX5_out_74 ?_
      refine lv_iand hx hb dX5_out_75 ?_
      refine lv_iconst (v := 1) hx hb dX5_out_76 (by decide) ?_
      refine lv_iand hx hb dX5_out_77 ?_
      refine lv_iadd hx hb dX5_out_78 ?_
      refine pu_R_a5 hx hb hK hP hD hS (xin_e16 hq k (by omega)) dX5_out_79 (fun H locs hP hD hS => ?_)
      have hP : va_P D vwCl (wR cI o f (ua (ua a 5 r) 5 (upd r (((8 : Int32) * q) + (nI k)).toNatClampNeg ((r (((8 : Int32) * q) + (nI k)).toNatClampNeg) + (((p2 >>> ((nI k) &&& 31)) &&& ((((a 4) q.toNatClampNeg) ^^^ (-1 : Int32)) >>> ((nI k) &&& 31))) &&& (1 : Int32)))))) H := hP
      have hD : va_D A (wR cI o f (ua (ua a 5 r) 5 (upd r (((8 : Int32) * q) + (nI k)).toNatClampNeg ((r (((8 : Int32) * q) + (nI k)).toNatClampNeg) + (((p2 >>> ((nI k) &&& 31)) &&& ((((a 4) q.toNatClampNeg) ^^^ (-1 : Int32)) >>> ((nI k) &&& 31))) &&& (1 : Int32)))))) := hD
      refine lv_iinc (v := (nI k) + (1 : Int32)) (lv' := [(4, .int _), (3, .int _), (0, .ref _), (1, .int _), (2, .int _)]) hx hb dX5_out_80 hl (k := 0) rfl rfl (by decide) rfl (fun ls hl => ?_)
      refine lv_goto (tgt := 40) hx hb dX5_out_83 (by decide) ?_
      rw [nI_1] at hl
      have hP : va_P D vwCl (wR cI o f (ua a 5 (upd r (((8 : Int32) * q) + (nI k)).toNatClampNeg ((r (((8 : Int32) * q) + (nI k)).toNatClampNeg) + (((p2 >>> ((nI k) &&& 31)) &&& ((((a 4) q.toNatClampNeg) ^^^ (-1 : Int32)) >>> ((nI k) &&& 31))) &&& (1 : Int32)))))) H := hP
      have hD : va_D A (wR cI o f (ua a 5 (upd r (((8 : Int32) * q) + (nI k)).toNatClampNeg ((r (((8 : Int32) * q) + (nI k)).toNatClampNeg) + (((p2 >>> ((nI k) &&& 31)) &&& ((((a 4) q.toNatClampNeg) ^^^ (-1 : Int32)) >>> ((nI k) &&& 31))) &&& (1 : Int32)))))) := hD
      exact ih (k + 1) (by omega) _ H locs hP hD hS ls (lv_sub hl [0, 1, 2, 3, 4] rfl)
def rOut (f : Nat → Int32) (a : Nat → Nat → Int32) (p1 : Int32) (p2 : Int32) : (Nat → Int32) × (Nat → Nat → Int32) :=
  if p1 = (2 : Int32) then (upd f 6 (p2 &&& (7 : Int32)), a)
  else if p1 = (3 : Int32) then if p1 = (3 : Int32) then (f, ua (ua a 5 (rEdges a p2 (0 : Int32) 8 0 (a 5))) 4 (upd (a 4) (0 : Int32).toNatClampNeg p2))
      else (f, ua (ua a 5 (rEdges a p2 (1 : Int32) 8 0 (a 5))) 4 (upd (a 4) (1 : Int32).toNatClampNeg p2))
    else if p1 = (5 : Int32) then if p1 = (3 : Int32) then (f, ua (ua a 5 (rEdges a p2 (0 : Int32) 8 0 (a 5))) 4 (upd (a 4) (0 : Int32).toNatClampNeg p2))
        else (f, ua (ua a 5 (rEdges a p2 (1 : Int32) 8 0 (a 5))) 4 (upd (a 4) (1 : Int32).toNatClampNeg p2))
      else if p1 = (4 : Int32) then (upd f 5 ((p2 <<< ((8 : Int32) &&& 31)) ||| ((f 5) >>> ((8 : Int32) &&& 31))), a)
        else if p1 = (6 : Int32) then (upd f 7 (0 : Int32), a)
          else (f, a)
set_option maxHeartbeats 4000000 in
set_option maxRecDepth 100000 in
theorem kX5_out (l : Launch) (D : va_G) (cI : ClassId) (o : Nat → Nat) (f : Nat → Int32) (a : Nat → Nat → Int32) (p1 : Int32) (p2 : Int32) : KC l yX5_out wsX5_out 0 [.ref (o 20), .int p1, .int p2] D cI (wR cI o f a) (wR cI o ((rOut f a p1 p2).1) ((rOut f a p1 p2).2)) none := by
  refine KC.of (cc := cX5_out) (maxL := 5) (by decide) rfl (Nat.le_of_ble_eq_true rfl) ?_
  intro p e s m below meth c A hx hb hr hts hown hlocks hml hK hP hD hS hA ls hl
  have hl : lv_has ls 5 [(0, .ref (o 20)), (1, .int p1), (2, .int p2)] := hl
  have hown : s.vm.findClass RX5 = some m.cls := hown
  have hi5 : ∀ w ∈ u_ws RX5 TX5 24, w ∈ wsX5_out := by decide +kernel
  refine lv_iload_n hx hb dX5_out_0 rfl (lv_at hl 1 rfl) ?_
  refine lv_iconst (v := 2) hx hb dX5_out_1 (by decide) ?_
  refine lv_icmp_ne (tgt := 16) hx hb dX5_out_2 (by decide) (fun c_1 => ?_) (fun c_1 => ?_)
  · refine lv_iload_n hx hb dX5_out_16 rfl (lv_at hl 1 rfl) ?_
    refine lv_iconst (v := 3) hx hb dX5_out_17 (by decide) ?_
    refine lv_icmp_eq (tgt := 26) hx hb dX5_out_18 (by decide) (fun c_2 => ?_) (fun c_2 => ?_)
    · refine lv_iload_n hx hb dX5_out_26 rfl (lv_at hl 1 rfl) ?_
      refine lv_iconst (v := 3) hx hb dX5_out_27 (by decide) ?_
      refine lv_icmp_ne (tgt := 35) hx hb dX5_out_28 (by decide) (fun c_3 => ?_) (fun c_3 => ?_)
      · refine lv_iconst (v := 1) hx hb dX5_out_35 (by decide) ?_
        refine lv_istore_n (lv' := [(3, .int _), (0, .ref _), (1, .int _), (2, .int _)]) hx hb dX5_out_36 rfl hl (by decide) rfl (fun ls hl => ?_)
        refine lv_iconst (v := 0) hx hb dX5_out_37 (by decide) ?_
        refine lv_istore (lv' := [(4, .int _), (3, .int _), (0, .ref _), (1, .int _), (2, .int _)]) hx hb dX5_out_38 hl (by decide) rfl (fun ls hl => ?_)
        have hF : rOut f a p1 p2 = (f, ua (ua a 5 (rEdges a p2 (1 : Int32) 8 0 (a 5))) 4 (upd (a 4) (1 : Int32).toNatClampNeg p2)) := by simp only [rOut, if_neg c_1, if_pos c_2, if_neg c_3]
        rw [hF]
        exact lpX5_out hx hb hr hts hown hlocks hml hK hA (by unfold vp_in; decide) 8 0 (by omega) (a 5) _ _ (show va_P D vwCl (wR cI o f (ua a 5 (a 5))) _ from hP) (show va_D A (wR cI o f (ua a 5 (a 5))) from hD) hS ls (lv_sub hl [0, 1, 2, 3, 4] rfl)
      · refine lv_iconst (v := 0) hx hb dX5_out_31 (by decide) ?_
        refine lv_goto (tgt := 36) hx hb dX5_out_32 (by decide) ?_
        refine lv_istore_n (lv' := [(3, .int _), (0, .ref _), (1, .int _), (2, .int _)]) hx hb dX5_out_36 rfl hl (by decide) rfl (fun ls hl => ?_)
        refine lv_iconst (v := 0) hx hb dX5_out_37 (by decide) ?_
        refine lv_istore (lv' := [(4, .int _), (3, .int _), (0, .ref _), (1, .int _), (2, .int _)]) hx hb dX5_out_38 hl (by decide) rfl (fun ls hl => ?_)
        have hF : rOut f a p1 p2 = (f, ua (ua a 5 (rEdges a p2 (0 : Int32) 8 0 (a 5))) 4 (upd (a 4) (0 : Int32).toNatClampNeg p2)) := by simp only [rOut, if_neg c_1, if_pos c_2, if_pos c_3]
        rw [hF]
        exact lpX5_out hx hb hr hts hown hlocks hml hK hA (by unfold vp_in; decide) 8 0 (by omega) (a 5) _ _ (show va_P D vwCl (wR cI o f (ua a 5 (a 5))) _ from hP) (show va_D A (wR cI o f (ua a 5 (a 5))) from hD) hS ls (lv_sub hl [0, 1, 2, 3, 4] rfl)
    · refine lv_iload_n hx hb dX5_out_21 rfl (lv_at hl 1 rfl) ?_
      refine lv_iconst (v := 5) hx hb dX5_out_22 (by decide) ?_
      refine lv_icmp_ne (tgt := 96) hx hb dX5_out_23 (by decide) (fun c_4 => ?_) (fun c_4 => ?_)
      · refine lv_iload_n hx hb dX5_out_96 rfl (lv_at hl 1 rfl) ?_
        refine lv_iconst (v := 4) hx hb dX5_out_97 (by decide) ?_
        refine lv_icmp_ne (tgt := 120) hx hb dX5_out_98 (by decide) (fun c_5 => ?_) (fun c_5 => ?_)
        · refine lv_iload_n hx hb dX5_out_120 rfl (lv_at hl 1 rfl) ?_
          refine lv_bipush (v := 6) hx hb dX5_out_121 (by decide) ?_
          refine lv_icmp_ne (tgt := 131) hx hb dX5_out_123 (by decide) (fun c_6 => ?_) (fun c_6 => ?_)
          · have hF : rOut f a p1 p2 = (f, a) := by simp only [rOut, if_neg c_1, if_neg c_2, if_neg c_4, if_neg c_5, if_neg c_6]
            rw [hF]
            exact KC.retv hx hb hr hlocks hK hP hD hS dX5_out_131
          · refine lv_aload_n hx hb dX5_out_126 rfl (lv_at hl 0 rfl) ?_
            refine lv_iconst (v := 0) hx hb dX5_out_127 (by decide) ?_
            refine pu_R_f7 (v := (0 : Int32)) hx hb hts hi5 hown hK hP hD hS (hts (.fieldLink RX5 163 "InvaderBoardModel" "hunger" "I") (by decide +kernel)) dX5_out_128 (fun H locs hP hD hS => ?_)
            have hF : rOut f a p1 p2 = (upd f 7 (0 : Int32), a) := by simp only [rOut, if_neg c_1, if_neg c_2, if_neg c_4, if_neg c_5, if_pos c_6]
            rw [hF]
            exact KC.retv hx hb hr hlocks hK hP hD hS dX5_out_131
        · refine lv_aload_n hx hb dX5_out_101 rfl (lv_at hl 0 rfl) ?_
          refine lv_iload_n hx hb dX5_out_102 rfl (lv_at hl 2 rfl) ?_
          refine lv_bipush (v := 8) hx hb dX5_out_103 (by decide) ?_
          refine lv_ishl hx hb dX5_out_105 ?_
          refine lv_aload_n hx hb dX5_out_106 rfl (lv_at hl 0 rfl) ?_
          refine va_get (ci := 5) (v := .int (f 5)) (C := RX5) (T := TX5) (N := 24) hx hb hts hi5 hown hK hP 0 rfl rfl 17 (by decide) (hts (.fieldLink RX5 157 "InvaderBoardModel" "shifter" "I") (by decide +kernel)) (fun _ h9 => h9) rfl dX5_out_107 ?_
          refine lv_bipush (v := 8) hx hb dX5_out_110 (by decide) ?_
          refine lv_ishr hx hb dX5_out_112 ?_
          refine lv_ior hx hb dX5_out_113 ?_
          refine pu_R_f5 (v := (p2 <<< ((8 : Int32) &&& 31)) ||| ((f 5) >>> ((8 : Int32) &&& 31))) hx hb hts hi5 hown hK hP hD hS (hts (.fieldLink RX5 157 "InvaderBoardModel" "shifter" "I") (by decide +kernel)) dX5_out_114 (fun H locs hP hD hS => ?_)
          refine lv_goto (tgt := 131) hx hb dX5_out_117 (by decide) ?_
          have hF : rOut f a p1 p2 = (upd f 5 ((p2 <<< ((8 : Int32) &&& 31)) ||| ((f 5) >>> ((8 : Int32) &&& 31))), a) := by simp only [rOut, if_neg c_1, if_neg c_2, if_neg c_4, if_pos c_5]
          rw [hF]
          exact KC.retv hx hb hr hlocks hK hP hD hS dX5_out_131
      · refine lv_iload_n hx hb dX5_out_26 rfl (lv_at hl 1 rfl) ?_
        refine lv_iconst (v := 3) hx hb dX5_out_27 (by decide) ?_
        refine lv_icmp_ne (tgt := 35) hx hb dX5_out_28 (by decide) (fun c_7 => ?_) (fun c_7 => ?_)
        · refine lv_iconst (v := 1) hx hb dX5_out_35 (by decide) ?_
          refine lv_istore_n (lv' := [(3, .int _), (0, .ref _), (1, .int _), (2, .int _)]) hx hb dX5_out_36 rfl hl (by decide) rfl (fun ls hl => ?_)
          refine lv_iconst (v := 0) hx hb dX5_out_37 (by decide) ?_
          refine lv_istore (lv' := [(4, .int _), (3, .int _), (0, .ref _), (1, .int _), (2, .int _)]) hx hb dX5_out_38 hl (by decide) rfl (fun ls hl => ?_)
          have hF : rOut f a p1 p2 = (f, ua (ua a 5 (rEdges a p2 (1 : Int32) 8 0 (a 5))) 4 (upd (a 4) (1 : Int32).toNatClampNeg p2)) := by simp only [rOut, if_neg c_1, if_neg c_2, if_pos c_4, if_neg c_7]
          rw [hF]
          exact lpX5_out hx hb hr hts hown hlocks hml hK hA (by unfold vp_in; decide) 8 0 (by omega) (a 5) _ _ (show va_P D vwCl (wR cI o f (ua a 5 (a 5))) _ from hP) (show va_D A (wR cI o f (ua a 5 (a 5))) from hD) hS ls (lv_sub hl [0, 1, 2, 3, 4] rfl)
        · refine lv_iconst (v := 0) hx hb dX5_out_31 (by decide) ?_
          refine lv_goto (tgt := 36) hx hb dX5_out_32 (by decide) ?_
          refine lv_istore_n (lv' := [(3, .int _), (0, .ref _), (1, .int _), (2, .int _)]) hx hb dX5_out_36 rfl hl (by decide) rfl (fun ls hl => ?_)
          refine lv_iconst (v := 0) hx hb dX5_out_37 (by decide) ?_
          refine lv_istore (lv' := [(4, .int _), (3, .int _), (0, .ref _), (1, .int _), (2, .int _)]) hx hb dX5_out_38 hl (by decide) rfl (fun ls hl => ?_)
          have hF : rOut f a p1 p2 = (f, ua (ua a 5 (rEdges a p2 (0 : Int32) 8 0 (a 5))) 4 (upd (a 4) (0 : Int32).toNatClampNeg p2)) := by simp only [rOut, if_neg c_1, if_neg c_2, if_pos c_4, if_pos c_7]
          rw [hF]
          exact lpX5_out hx hb hr hts hown hlocks hml hK hA (by unfold vp_in; decide) 8 0 (by omega) (a 5) _ _ (show va_P D vwCl (wR cI o f (ua a 5 (a 5))) _ from hP) (show va_D A (wR cI o f (ua a 5 (a 5))) from hD) hS ls (lv_sub hl [0, 1, 2, 3, 4] rfl)
  · refine lv_aload_n hx hb dX5_out_5 rfl (lv_at hl 0 rfl) ?_
    refine lv_iload_n hx hb dX5_out_6 rfl (lv_at hl 2 rfl) ?_
    refine lv_bipush (v := 7) hx hb dX5_out_7 (by decide) ?_
    refine lv_iand hx hb dX5_out_9 ?_
    refine pu_R_f6 (v := p2 &&& (7 : Int32)) hx hb hts hi5 hown hK hP hD hS (hts (.fieldLink RX5 160 "InvaderBoardModel" "offset" "I") (by decide +kernel)) dX5_out_10 (fun H locs hP hD hS => ?_)
    refine lv_goto (tgt := 131) hx hb dX5_out_13 (by decide) ?_
    have hF : rOut f a p1 p2 = (upd f 6 (p2 &&& (7 : Int32)), a) := by simp only [rOut, if_pos c_1]
    rw [hF]
    exact KC.retv hx hb hr hlocks hK hP hD hS dX5_out_131
def rSingle (f : Nat → Int32) (a : Nat → Nat → Int32) (p1 : Int32) : Int32 × (Nat → Int32) × (Nat → Nat → Int32) :=
  if (2 : Int32) ≤ p1 then if p1 = (2 : Int32) then (match rNext f a with
      | (r_13, f_13) => (match rOut f_13 a r_13 ((a 2) (7 : Int32).toNatClampNeg) with
        | (f_14, a_14) => ((10 : Int32), f_14, a_14)))
    else if p1 = (3 : Int32) then (match rNext f a with
        | (r_12, f_12) => ((10 : Int32), f_12, ua a 2 (upd (a 2) (7 : Int32).toNatClampNeg (rIn f_12 a r_12))))
      else if p1 = (4 : Int32) then (match rSetPair f (ua (ua a 1 (rWrite f a (f 0) ((a 2) (5 : Int32).toNatClampNeg))) 1 (rWrite f (ua a 1 (rWrite f a (f 0) ((a 2) (5 : Int32).toNatClampNeg))) (((f 0) + (1 : Int32)) &&& (65535 : Int32)) ((a 2) (4 : Int32).toNatClampNeg))) (2 : Int32) ((rRead f a (f 0)) ||| ((rRead f a (((f 0) + (1 : Int32)) &&& (65535 : Int32))) <<< ((8 : Int32) &&& 31))) with
          | (f_11, a_11) => ((18 : Int32), f_11, a_11))
        else if p1 = (5 : Int32) then (match rSetPair f a (2 : Int32) (rPair f a (1 : Int32)) with
            | (f_9, a_9) => (match rSetPair f_9 a_9 (1 : Int32) (rHl f a) with
              | (f_10, a_10) => ((4 : Int32), f_10, a_10)))
          else if p1 = (6 : Int32) then ((4 : Int32), upd (upd f 2 (0 : Int32)) 17 (0 : Int32), a)
            else if f 2 = 0 then if f 17 = 0 then ((4 : Int32), upd f 3 (1 : Int32), a)
                else ((4 : Int32), f, a)
              else ((4 : Int32), f, a)
  else (match rNextTwo f a with
    | (r_15, f_15) => ((10 : Int32), upd f_15 1 r_15, a))
set_option maxHeartbeats 4000000 in
set_option maxRecDepth 100000 in
theorem kX5_single (l : Launch) (D : va_G) (cI : ClassId) (o : Nat → Nat) (f : Nat → Int32) (a : Nat → Nat → Int32) (p1 : Int32) (hR : ∀ q : Int32, ¬ rRead f a q < 0) : KC l yX5_single wsX5_single 3 [.ref (o 20), .int p1] D cI (wR cI o f a) (wR cI o ((rSingle f a p1).2.1) ((rSingle f a p1).2.2)) (some (.int (rSingle f a p1).1)) := by
  refine KC.of (cc := cX5_single) (maxL := 3) (by decide) rfl (Nat.le_of_ble_eq_true rfl) ?_
  intro p e s m below meth c A hx hb hr hts hown hlocks hml hK hP hD hS hA ls hl
  have hl : lv_has ls 3 [(0, .ref (o 20)), (1, .int p1)] := hl
  have hown : s.vm.findClass RX5 = some m.cls := hown
  have hi5 : ∀ w ∈ u_ws RX5 TX5 24, w ∈ wsX5_single := by decide +kernel
  refine lv_iload_n hx hb dX5_single_0 rfl (lv_at hl 1 rfl) ?_
  refine lv_iconst (v := 2) hx hb dX5_single_1 (by decide) ?_
  refine lv_icmp_ge (tgt := 16) hx hb dX5_single_2 (by decide) (fun c_1 => ?_) (fun c_1 => ?_)
  · refine lv_iload_n hx hb dX5_single_16 rfl (lv_at hl 1 rfl) ?_
    refine lv_iconst (v := 2) hx hb dX5_single_17 (by decide) ?_
    refine lv_icmp_ne (tgt := 39) hx hb dX5_single_18 (by decide) (fun c_2 => ?_) (fun c_2 => ?_)
    · refine lv_iload_n hx hb dX5_single_39 rfl (lv_at hl 1 rfl) ?_
      refine lv_iconst (v := 3) hx hb dX5_single_40 (by decide) ?_
      refine lv_icmp_ne (tgt := 62) hx hb dX5_single_41 (by decide) (fun c_3 => ?_) (fun c_3 => ?_)
      · refine lv_iload_n hx hb dX5_single_62 rfl (lv_at hl 1 rfl) ?_
        refine lv_iconst (v := 4) hx hb dX5_single_63 (by decide) ?_
        refine lv_icmp_ne (tgt := 135) hx hb dX5_single_64 (by decide) (fun c_4 => ?_) (fun c_4 => ?_)
        · refine lv_iload_n hx hb dX5_single_135 rfl (lv_at hl 1 rfl) ?_
          refine lv_iconst (v := 5) hx hb dX5_single_136 (by decide) ?_
          refine lv_icmp_ne (tgt := 163) hx hb dX5_single_137 (by decide) (fun c_5 => ?_) (fun c_5 => ?_)
          · refine lv_iload_n hx hb dX5_single_163 rfl (lv_at hl 1 rfl) ?_
            refine lv_bipush (v := 6) hx hb dX5_single_164 (by decide) ?_
            refine lv_icmp_ne (tgt := 182) hx hb dX5_single_166 (by decide) (fun c_6 => ?_) (fun c_6 => ?_)
            · refine lv_aload_n hx hb dX5_single_182 rfl (lv_at hl 0 rfl) ?_
              refine va_get (ci := 5) (v := .int (f 2)) (C := RX5) (T := TX5) (N := 24) hx hb hts hi5 hown hK hP 0 rfl rfl 11 (by decide) (hts (.fieldLink RX5 148 "InvaderBoardModel" "enabled" "Z") (by decide +kernel)) (fun _ h9 => h9) rfl dX5_single_183 ?_
              refine lv_if_ne (tgt := 201) hx hb dX5_single_186 (by decide) (fun c_7 => ?_) (fun c_7 => ?_)
              · refine lv_iconst (v := 4) hx hb dX5_single_201 (by decide) ?_
                have hF : rSingle f a p1 = ((4 : Int32), f, a) := by simp only [rSingle, if_pos c_1, if_neg c_2, if_neg c_3, if_neg c_4, if_neg c_5, if_neg c_6, if_neg c_7]
                rw [hF]
                exact KC.reti hx hb hr hlocks hK hP hD hS dX5_single_202 rfl
              · refine lv_aload_n hx hb dX5_single_189 rfl (lv_at hl 0 rfl) ?_
                refine va_get (ci := 5) (v := .int (f 17)) (C := RX5) (T := TX5) (N := 24) hx hb hts hi5 hown hK hP 0 rfl rfl 12 (by decide) (hts (.fieldLink RX5 151 "InvaderBoardModel" "due" "Z") (by decide +kernel)) (fun _ h9 => h9) rfl dX5_single_190 ?_
                refine lv_if_ne (tgt := 201) hx hb dX5_single_193 (by decide) (fun c_8 => ?_) (fun c_8 => ?_)
                · refine lv_iconst (v := 4) hx hb dX5_single_201 (by decide) ?_
                  have hF : rSingle f a p1 = ((4 : Int32), f, a) := by simp only [rSingle, if_pos c_1, if_neg c_2, if_neg c_3, if_neg c_4, if_neg c_5, if_neg c_6, if_pos c_7, if_neg c_8]
                  rw [hF]
                  exact KC.reti hx hb hr hlocks hK hP hD hS dX5_single_202 rfl
                · refine lv_aload_n hx hb dX5_single_196 rfl (lv_at hl 0 rfl) ?_
                  refine lv_iconst (v := 1) hx hb dX5_single_197 (by decide) ?_
                  refine pu_R_f3 (v := (1 : Int32)) hx hb hts hi5 hown hK hP hD hS (hts (.fieldLink RX5 154 "InvaderBoardModel" "soon" "Z") (by decide +kernel)) (by decide +kernel) (by decide +kernel) dX5_single_198 (fun H locs hP hD hS => ?_)
                  refine lv_iconst (v := 4) hx hb dX5_single_201 (by decide) ?_
                  have hF : rSingle f a p1 = ((4 : Int32), upd f 3 (1 : Int32), a) := by simp only [rSingle, if_pos c_1, if_neg c_2, if_neg c_3, if_neg c_4, if_neg c_5, if_neg c_6, if_pos c_7, if_pos c_8]
                  rw [hF]
                  exact KC.reti hx hb hr hlocks hK hP hD hS dX5_single_202 rfl
            · refine lv_aload_n hx hb dX5_single_169 rfl (lv_at hl 0 rfl) ?_
              refine lv_iconst (v := 0) hx hb dX5_single_170 (by decide) ?_
              refine pu_R_f2 (v := (0 : Int32)) hx hb hts hi5 hown hK hP hD hS (hts (.fieldLink RX5 148 "InvaderBoardModel" "enabled" "Z") (by decide +kernel)) (by decide +kernel) (by decide +kernel) dX5_single_171 (fun H locs hP hD hS => ?_)
              refine lv_aload_n hx hb dX5_single_174 rfl (lv_at hl 0 rfl) ?_
              refine lv_iconst (v := 0) hx hb dX5_single_175 (by decide) ?_
              refine pu_R_f17 (v := (0 : Int32)) hx hb hts hi5 hown hK hP hD hS (hts (.fieldLink RX5 151 "InvaderBoardModel" "due" "Z") (by decide +kernel)) (by decide +kernel) (by decide +kernel) dX5_single_176 (fun H locs hP hD hS => ?_)
              refine lv_goto (tgt := 201) hx hb dX5_single_179 (by decide) ?_
              refine lv_iconst (v := 4) hx hb dX5_single_201 (by decide) ?_
              have hF : rSingle f a p1 = ((4 : Int32), upd (upd f 2 (0 : Int32)) 17 (0 : Int32), a) := by simp only [rSingle, if_pos c_1, if_neg c_2, if_neg c_3, if_neg c_4, if_neg c_5, if_pos c_6]
              rw [hF]
              exact KC.reti hx hb hr hlocks hK hP hD hS dX5_single_202 rfl
          · refine lv_aload_n hx hb dX5_single_140 rfl (lv_at hl 0 rfl) ?_
            refine KC.calli (ci := 5) (rest := []) (wt := wR cI o f a) (kX5_hl l D cI o f a) (cwV 0 hts gX5_single_X5_hl rfl rfl rfl (by decide +kernel) ⟨Nat.le_of_ble_eq_true rfl, Nat.le_of_ble_eq_true rfl⟩) ⟨hx, hb, hml, hown, hts⟩ hK hP hD hS hA rfl rfl rfl [0, 1, 2, 3, 4, 5, 6] [] [0, 1, 2, 3, 4, 5, 6] (by decide) rfl (wr := []) rfl (by decide) (by decide) (by decide) rfl rfl hl.1 rfl (Nat.le_of_ble_eq_true rfl) dX5_single_141 ⟨Nat.zero_le _, Nat.zero_le _⟩ (fun H locs hP hD hS => ?_)
            refine lv_istore_n (lv' := [(2, .int _), (0, .ref _), (1, .int _)]) hx hb dX5_single_144 rfl hl (by decide) rfl (fun ls hl => ?_)
            refine lv_aload_n hx hb dX5_single_145 rfl (lv_at hl 1 rfl) ?_
            refine lv_iconst (v := 2) hx hb dX5_single_146 (by decide) ?_
            refine lv_aload_n hx hb dX5_single_147 rfl (lv_at hl 1 rfl) ?_
            refine lv_iconst (v := 1) hx hb dX5_single_148 (by decide) ?_
            refine KC.calli (ci := 5) (rest := [.int (2 : Int32), .ref (o 20)]) (wt := wR cI o f a) (kX5_pair l D cI o f a (1 : Int32) (by first | exact h1 | exact hR | exact hs | exact xin_sh1 h1 | exact xin_a7 _ | exact rNext_nn hR (by assumption) | (unfold vp_in; decide) | decide | exact xin_ng 223 (by decide) (by assumption) (by assumption) | exact xin_le 255 (by decide) (by assumption) (by assumption))) (cwV 1 hts gX5_single_X5_pair rfl rfl rfl (by decide +kernel) ⟨Nat.le_of_ble_eq_true rfl, Nat.le_of_ble_eq_true rfl⟩) ⟨hx, hb, hml, hown, hts⟩ hK hP hD hS hA rfl rfl rfl [0, 1, 2, 3, 4, 5, 6] [] [0, 1, 2, 3, 4, 5, 6] (by decide) rfl (wr := []) rfl (by decide) (by decide) (by decide) rfl rfl hl.1 rfl (Nat.le_of_ble_eq_true rfl) dX5_single_149 ⟨Nat.zero_le _, Nat.zero_le _⟩ (fun H locs hP hD hS => ?_)
            obtain ⟨f_9, a_9, hB_9⟩ : ∃ (f_9 : Nat → Int32) (a_9 : Nat → Nat → Int32), rSetPair f a (2 : Int32) (rPair f a (1 : Int32)) = (f_9, a_9) := ⟨_, _, rfl⟩
            have kc_9 := kX5_setPair l D cI o f a (2 : Int32) (rPair f a (1 : Int32)) (by first | exact h1 | exact hR | exact hs | exact xin_sh1 h1 | exact xin_a7 _ | exact rNext_nn hR (by assumption) | (unfold vp_in; decide) | decide | exact xin_ng 223 (by decide) (by assumption) (by assumption) | exact xin_le 255 (by decide) (by assumption) (by assumption))
            rw [hB_9] at kc_9
            refine KC.callv (ci := 5) (rest := []) (wt := wR cI o f_9 a_9) (kc_9) (cwV 2 hts gX5_single_X5_setPair rfl rfl rfl (by decide +kernel) ⟨Nat.le_of_ble_eq_true rfl, Nat.le_of_ble_eq_true rfl⟩) ⟨hx, hb, hml, hown, hts⟩ hK hP hD hS hA rfl rfl rfl [0, 1, 2, 3, 4, 5, 6] [] [0, 1, 2, 3, 4, 5, 6] (by decide) rfl (wr := []) rfl (by decide) (by decide) (by decide) rfl rfl hl.1 rfl (Nat.le_of_ble_eq_true rfl) dX5_single_152 ⟨Nat.zero_le _, Nat.zero_le _⟩ (fun H locs hP hD hS => ?_)
            refine lv_aload_n hx hb dX5_single_155 rfl (lv_at hl 1 rfl) ?_
            refine lv_iconst (v := 1) hx hb dX5_single_156 (by decide) ?_
            refine lv_iload_n hx hb dX5_single_157 rfl (lv_at hl 0 rfl) ?_
            obtain ⟨f_10, a_10, hB_10⟩ : ∃ (f_10 : Nat → Int32) (a_10 : Nat → Nat → Int32), rSetPair f_9 a_9 (1 : Int32) (rHl f a) = (f_10, a_10) := ⟨_, _, rfl⟩
            have kc_10 := kX5_setPair l D cI o f_9 a_9 (1 : Int32) (rHl f a) (by first | exact h1 | exact hR | exact hs | exact xin_sh1 h1 | exact xin_a7 _ | exact rNext_nn hR (by assumption) | (unfold vp_in; decide) | decide | exact xin_ng 223 (by decide) (by assumption) (by assumption) | exact xin_le 255 (by decide) (by assumption) (by assumption))
            rw [hB_10] at kc_10
            refine KC.callv (ci := 5) (rest := []) (wt := wR cI o f_10 a_10) (kc_10) (cwV 2 hts gX5_single_X5_setPair rfl rfl rfl (by decide +kernel) ⟨Nat.le_of_ble_eq_true rfl, Nat.le_of_ble_eq_true rfl⟩) ⟨hx, hb, hml, hown, hts⟩ hK hP hD hS hA rfl rfl rfl [0, 1, 2, 3, 4, 5, 6] [] [0, 1, 2, 3, 4, 5, 6] (by decide) rfl (wr := []) rfl (by decide) (by decide) (by decide) rfl rfl hl.1 rfl (Nat.le_of_ble_eq_true rfl) dX5_single_158 ⟨Nat.zero_le _, Nat.zero_le _⟩ (fun H locs hP hD hS => ?_)
            refine lv_iconst (v := 4) hx hb dX5_single_161 (by decide) ?_
            have hF : rSingle f a p1 = ((4 : Int32), f_10, a_10) := by simp only [rSingle, if_pos c_1, if_neg c_2, if_neg c_3, if_neg c_4, if_pos c_5, hB_9, hB_10]
            rw [hF]
            exact KC.reti hx hb hr hlocks hK hP hD hS dX5_single_162 rfl
        · refine lv_aload_n hx hb dX5_single_67 rfl (lv_at hl 0 rfl) ?_
          refine lv_aload_n hx hb dX5_single_68 rfl (lv_at hl 0 rfl) ?_
          refine va_get (ci := 5) (v := .int (f 0)) (C := RX5) (T := TX5) (N := 24) hx hb hts hi5 hown hK hP 0 rfl rfl 4 (by decide) (hts (.fieldLink RX5 44 "InvaderBoardModel" "sp" "I") (by decide +kernel)) (fun _ h9 => h9) rfl dX5_single_69 ?_
          refine KC.calli (ci := 5) (rest := []) (wt := wR cI o f a) (kX5_read l D cI o f a (f 0)) (cwV 1 hts gX5_single_X5_read rfl rfl rfl (by decide +kernel) ⟨Nat.le_of_ble_eq_true rfl, Nat.le_of_ble_eq_true rfl⟩) ⟨hx, hb, hml, hown, hts⟩ hK hP hD hS hA rfl rfl rfl [0, 1, 2, 3, 4, 5, 6] [] [0, 1, 2, 3, 4, 5, 6] (by decide) rfl (wr := []) rfl (by decide) (by decide) (by decide) rfl rfl hl.1 rfl (Nat.le_of_ble_eq_true rfl) dX5_single_72 ⟨Nat.zero_le _, Nat.zero_le _⟩ (fun H locs hP hD hS => ?_)
          refine lv_aload_n hx hb dX5_single_75 rfl (lv_at hl 0 rfl) ?_
          refine lv_aload_n hx hb dX5_single_76 rfl (lv_at hl 0 rfl) ?_
          refine va_get (ci := 5) (v := .int (f 0)) (C := RX5) (T := TX5) (N := 24) hx hb hts hi5 hown hK hP 0 rfl rfl 4 (by decide) (hts (.fieldLink RX5 44 "InvaderBoardModel" "sp" "I") (by decide +kernel)) (fun _ h9 => h9) rfl dX5_single_77 ?_
          refine lv_iconst (v := 1) hx hb dX5_single_80 (by decide) ?_
          refine lv_iadd hx hb dX5_single_81 ?_
          refine lv_ldc (v := 65535) hx hb hown (hts (.constant RX5 32 65535) (by decide +kernel)) dX5_single_82 ?_
          refine lv_iand hx hb dX5_single_84 ?_
          refine KC.calli (ci := 5) (rest := [.int (rRead f a (f 0))]) (wt := wR cI o f a) (kX5_read l D cI o f a (((f 0) + (1 : Int32)) &&& (65535 : Int32))) (cwV 1 hts gX5_single_X5_read rfl rfl rfl (by decide +kernel) ⟨Nat.le_of_ble_eq_true rfl, Nat.le_of_ble_eq_true rfl⟩) ⟨hx, hb, hml, hown, hts⟩ hK hP hD hS hA rfl rfl rfl [0, 1, 2, 3, 4, 5, 6] [] [0, 1, 2, 3, 4, 5, 6] (by decide) rfl (wr := []) rfl (by decide) (by decide) (by decide) rfl rfl hl.1 rfl (Nat.le_of_ble_eq_true rfl) dX5_single_85 ⟨Nat.zero_le _, Nat.zero_le _⟩ (fun H locs hP hD hS => ?_)
          refine lv_bipush (v := 8) hx hb dX5_single_88 (by decide) ?_
          refine lv_ishl hx hb dX5_single_90 ?_
          refine lv_ior hx hb dX5_single_91 ?_
          refine lv_istore_n (lv' := [(2, .int _), (0, .ref _), (1, .int _)]) hx hb dX5_single_92 rfl hl (by decide) rfl (fun ls hl => ?_)
          refine lv_aload_n hx hb dX5_single_93 rfl (lv_at hl 1 rfl) ?_
          refine lv_aload_n hx hb dX5_single_94 rfl (lv_at hl 1 rfl) ?_
          refine va_get (ci := 5) (v := .int (f 0)) (C := RX5) (T := TX5) (N := 24) hx hb hts hi5 hown hK hP 0 rfl rfl 4 (by decide) (hts (.fieldLink RX5 44 "InvaderBoardModel" "sp" "I") (by decide +kernel)) (fun _ h9 => h9) rfl dX5_single_95 ?_
          refine lv_aload_n hx hb dX5_single_98 rfl (lv_at hl 1 rfl) ?_
          refine va_get (ci := 5) (v := .ref (o 23)) (C := RX5) (T := TX5) (N := 24) hx hb hts hi5 hown hK hP 0 rfl rfl 3 (by decide) (hts (.fieldLink RX5 16 "InvaderBoardModel" "reg" "[I") (by decide +kernel)) (fun _ h9 => h9) rfl dX5_single_99 ?_
          refine lv_iconst (v := 5) hx hb dX5_single_102 (by decide) ?_
          refine va_iald (f := a 2) hx hb hK hP 3 0 rfl rfl (by unfold vp_in; decide) dX5_single_103 ?_
          refine KC.callv (ci := 5) (rest := []) (wt := wR cI o f (ua a 1 (rWrite f a (f 0) ((a 2) (5 : Int32).toNatClampNeg)))) (kX5_write l D cI o f a (f 0) ((a 2) (5 : Int32).toNatClampNeg)) (cwV 2 hts gX5_single_X5_write rfl rfl rfl (by decide +kernel) ⟨Nat.le_of_ble_eq_true rfl, Nat.le_of_ble_eq_true rfl⟩) ⟨hx, hb, hml, hown, hts⟩ hK hP hD hS hA rfl rfl rfl [0, 1, 2, 3, 4, 5, 6] [] [0, 1, 2, 3, 4, 5, 6] (by decide) rfl (wr := []) rfl (by decide) (by decide) (by decide) rfl rfl hl.1 rfl (Nat.le_of_ble_eq_true rfl) dX5_single_104 ⟨Nat.zero_le _, Nat.zero_le _⟩ (fun H locs hP hD hS => ?_)
          refine lv_aload_n hx hb dX5_single_107 rfl (lv_at hl 1 rfl) ?_
          refine lv_aload_n hx hb dX5_single_108 rfl (lv_at hl 1 rfl) ?_
          refine va_get (ci := 5) (v := .int (f 0)) (C := RX5) (T := TX5) (N := 24) hx hb hts hi5 hown hK hP 0 rfl rfl 4 (by decide) (hts (.fieldLink RX5 44 "InvaderBoardModel" "sp" "I") (by decide +kernel)) (fun _ h9 => h9) rfl dX5_single_109 ?_
          refine lv_iconst (v := 1) hx hb dX5_single_112 (by decide) ?_
          refine lv_iadd hx hb dX5_single_113 ?_
          refine lv_ldc (v := 65535) hx hb hown (hts (.constant RX5 32 65535) (by decide +kernel)) dX5_single_114 ?_
          refine lv_iand hx hb dX5_single_116 ?_
          refine lv_aload_n hx hb dX5_single_117 rfl (lv_at hl 1 rfl) ?_
          refine va_get (ci := 5) (v := .ref (o 23)) (C := RX5) (T := TX5) (N := 24) hx hb hts hi5 hown hK hP 0 rfl rfl 3 (by decide) (hts (.fieldLink RX5 16 "InvaderBoardModel" "reg" "[I") (by decide +kernel)) (fun _ h9 => h9) rfl dX5_single_118 ?_
          refine lv_iconst (v := 4) hx hb dX5_single_121 (by decide) ?_
          refine va_iald (f := a 2) hx hb hK hP 3 0 rfl rfl (by unfold vp_in; decide) dX5_single_122 ?_
          refine KC.callv (ci := 5) (rest := []) (wt := wR cI o f (ua (ua a 1 (rWrite f a (f 0) ((a 2) (5 : Int32).toNatClampNeg))) 1 (rWrite f (ua a 1 (rWrite f a (f 0) ((a 2) (5 : Int32).toNatClampNeg))) (((f 0) + (1 : Int32)) &&& (65535 : Int32)) ((a 2) (4 : Int32).toNatClampNeg)))) (kX5_write l D cI o f (ua a 1 (rWrite f a (f 0) ((a 2) (5 : Int32).toNatClampNeg))) (((f 0) + (1 : Int32)) &&& (65535 : Int32)) ((a 2) (4 : Int32).toNatClampNeg)) (cwV 2 hts gX5_single_X5_write rfl rfl rfl (by decide +kernel) ⟨Nat.le_of_ble_eq_true rfl, Nat.le_of_ble_eq_true rfl⟩) ⟨hx, hb, hml, hown, hts⟩ hK hP hD hS hA rfl rfl rfl [0, 1, 2, 3, 4, 5, 6] [] [0, 1, 2, 3, 4, 5, 6] (by decide) rfl (wr := []) rfl (by decide) (by decide) (by decide) rfl rfl hl.1 rfl (Nat.le_of_ble_eq_true rfl) dX5_single_123 ⟨Nat.zero_le _, Nat.zero_le _⟩ (fun H locs hP hD hS => ?_)
          refine lv_aload_n hx hb dX5_single_126 rfl (lv_at hl 1 rfl) ?_
          refine lv_iconst (v := 2) hx hb dX5_single_127 (by decide) ?_
          refine lv_iload_n hx hb dX5_single_128 rfl (lv_at hl 0 rfl) ?_
          obtain ⟨f_11, a_11, hB_11⟩ : ∃ (f_11 : Nat → Int32) (a_11 : Nat → Nat → Int32), rSetPair f (ua (ua a 1 (rWrite f a (f 0) ((a 2) (5 : Int32).toNatClampNeg))) 1 (rWrite f (ua a 1 (rWrite f a (f 0) ((a 2) (5 : Int32).toNatClampNeg))) (((f 0) + (1 : Int32)) &&& (65535 : Int32)) ((a 2) (4 : Int32).toNatClampNeg))) (2 : Int32) ((rRead f a (f 0)) ||| ((rRead f a (((f 0) + (1 : Int32)) &&& (65535 : Int32))) <<< ((8 : Int32) &&& 31))) = (f_11, a_11) := ⟨_, _, rfl⟩
          have kc_11 := kX5_setPair l D cI o f (ua (ua a 1 (rWrite f a (f 0) ((a 2) (5 : Int32).toNatClampNeg))) 1 (rWrite f (ua a 1 (rWrite f a (f 0) ((a 2) (5 : Int32).toNatClampNeg))) (((f 0) + (1 : Int32)) &&& (65535 : Int32)) ((a 2) (4 : Int32).toNatClampNeg))) (2 : Int32) ((rRead f a (f 0)) ||| ((rRead f a (((f 0) + (1 : Int32)) &&& (65535 : Int32))) <<< ((8 : Int32) &&& 31))) (by first | exact h1 | exact hR | exact hs | exact xin_sh1 h1 | exact xin_a7 _ | exact rNext_nn hR (by assumption) | (unfold vp_in; decide) | decide | exact xin_ng 223 (by decide) (by assumption) (by assumption) | exact xin_le 255 (by decide) (by assumption) (by assumption))
          rw [hB_11] at kc_11
          refine KC.callv (ci := 5) (rest := []) (wt := wR cI o f_11 a_11) (kc_11) (cwV 2 hts gX5_single_X5_setPair rfl rfl rfl (by decide +kernel) ⟨Nat.le_of_ble_eq_true rfl, Nat.le_of_ble_eq_true rfl⟩) ⟨hx, hb, hml, hown, hts⟩ hK hP hD hS hA rfl rfl rfl [0, 1, 2, 3, 4, 5, 6] [] [0, 1, 2, 3, 4, 5, 6] (by decide) rfl (wr := []) rfl (by decide) (by decide) (by decide) rfl rfl hl.1 rfl (Nat.le_of_ble_eq_true rfl) dX5_single_129 ⟨Nat.zero_le _, Nat.zero_le _⟩ (fun H locs hP hD hS => ?_)
          refine lv_bipush (v := 18) hx hb dX5_single_132 (by decide) ?_
          have hF : rSingle f a p1 = ((18 : Int32), f_11, a_11) := by simp only [rSingle, if_pos c_1, if_neg c_2, if_neg c_3, if_pos c_4, hB_11]
          rw [hF]
          exact KC.reti hx hb hr hlocks hK hP hD hS dX5_single_134 rfl
      · refine lv_aload_n hx hb dX5_single_44 rfl (lv_at hl 0 rfl) ?_
        refine va_get (ci := 5) (v := .ref (o 23)) (C := RX5) (T := TX5) (N := 24) hx hb hts hi5 hown hK hP 0 rfl rfl 3 (by decide) (hts (.fieldLink RX5 16 "InvaderBoardModel" "reg" "[I") (by decide +kernel)) (fun _ h9 => h9) rfl dX5_single_45 ?_
        refine lv_bipush (v := 7) hx hb dX5_single_48 (by decide) ?_
        refine lv_aload_n hx hb dX5_single_50 rfl (lv_at hl 0 rfl) ?_
        refine lv_aload_n hx hb dX5_single_51 rfl (lv_at hl 0 rfl) ?_
        obtain ⟨r_12, f_12, hB_12⟩ : ∃ (r_12 : Int32) (f_12 : Nat → Int32), rNext f a = (r_12, f_12) := ⟨_, _, rfl⟩
        have kc_12 := kX5_next l D cI o f a
        rw [hB_12] at kc_12
        refine KC.calli (ci := 5) (rest := [.ref (o 20), .int (7 : Int32), .ref (o 23)]) (wt := wR cI o f_12 a) (kc_12) (cwV 0 hts gX5_single_X5_next rfl rfl rfl (by decide +kernel) ⟨Nat.le_of_ble_eq_true rfl, Nat.le_of_ble_eq_true rfl⟩) ⟨hx, hb, hml, hown, hts⟩ hK hP hD hS hA rfl rfl rfl [0, 1, 2, 3, 4, 5, 6] [] [0, 1, 2, 3, 4, 5, 6] (by decide) rfl (wr := []) rfl (by decide) (by decide) (by decide) rfl rfl hl.1 rfl (Nat.le_of_ble_eq_true rfl) dX5_single_52 ⟨Nat.zero_le _, Nat.zero_le _⟩ (fun H locs hP hD hS => ?_)
        refine KC.calli (ci := 5) (rest := [.int (7 : Int32), .ref (o 23)]) (wt := wR cI o f_12 a) (kX5_in l D cI o f_12 a r_12 (by first | exact h1 | exact hR | exact hs | exact xin_sh1 h1 | exact xin_a7 _ | exact rNext_nn hR (by assumption) | (unfold vp_in; decide) | decide | exact xin_ng 223 (by decide) (by assumption) (by assumption) | exact xin_le 255 (by decide) (by assumption) (by assumption))) (cwV 1 hts gX5_single_X5_in rfl rfl rfl (by decide +kernel) ⟨Nat.le_of_ble_eq_true rfl, Nat.le_of_ble_eq_true rfl⟩) ⟨hx, hb, hml, hown, hts⟩ hK hP hD hS hA rfl rfl rfl [0, 1, 2, 3, 4, 5, 6] [] [0, 1, 2, 3, 4, 5, 6] (by decide) rfl (wr := []) rfl (by decide) (by decide) (by decide) rfl rfl hl.1 rfl (Nat.le_of_ble_eq_true rfl) dX5_single_55 ⟨Nat.zero_le _, Nat.zero_le _⟩ (fun H locs hP hD hS => ?_)
        refine pu_R_a2 hx hb hK hP hD hS (by unfold vp_in; decide) dX5_single_58 (fun H locs hP hD hS => ?_)
        refine lv_bipush (v := 10) hx hb dX5_single_59 (by decide) ?_
        have hF : rSingle f a p1 = ((10 : Int32), f_12, ua a 2 (upd (a 2) (7 : Int32).toNatClampNeg (rIn f_12 a r_12))) := by simp only [rSingle, if_pos c_1, if_neg c_2, if_pos c_3, hB_12]
        rw [hF]
        exact KC.reti hx hb hr hlocks hK hP hD hS dX5_single_61 rfl
    · refine lv_aload_n hx hb dX5_single_21 rfl (lv_at hl 0 rfl) ?_
      refine lv_aload_n hx hb dX5_single_22 rfl (lv_at hl 0 rfl) ?_
      obtain ⟨r_13, f_13, hB_13⟩ : ∃ (r_13 : Int32) (f_13 : Nat → Int32), rNext f a = (r_13, f_13) := ⟨_, _, rfl⟩
      have kc_13 := kX5_next l D cI o f a
      rw [hB_13] at kc_13
      refine KC.calli (ci := 5) (rest := [.ref (o 20)]) (wt := wR cI o f_13 a) (kc_13) (cwV 0 hts gX5_single_X5_next rfl rfl rfl (by decide +kernel) ⟨Nat.le_of_ble_eq_true rfl, Nat.le_of_ble_eq_true rfl⟩) ⟨hx, hb, hml, hown, hts⟩ hK hP hD hS hA rfl rfl rfl [0, 1, 2, 3, 4, 5, 6] [] [0, 1, 2, 3, 4, 5, 6] (by decide) rfl (wr := []) rfl (by decide) (by decide) (by decide) rfl rfl hl.1 rfl (Nat.le_of_ble_eq_true rfl) dX5_single_23 ⟨Nat.zero_le _, Nat.zero_le _⟩ (fun H locs hP hD hS => ?_)
      refine lv_aload_n hx hb dX5_single_26 rfl (lv_at hl 0 rfl) ?_
      refine va_get (ci := 5) (v := .ref (o 23)) (C := RX5) (T := TX5) (N := 24) hx hb hts hi5 hown hK hP 0 rfl rfl 3 (by decide) (hts (.fieldLink RX5 16 "InvaderBoardModel" "reg" "[I") (by decide +kernel)) (fun _ h9 => h9) rfl dX5_single_27 ?_
      refine lv_bipush (v := 7) hx hb dX5_single_30 (by decide) ?_
      refine va_iald (f := a 2) hx hb hK hP 3 0 rfl rfl (by unfold vp_in; decide) dX5_single_32 ?_
      obtain ⟨f_14, a_14, hB_14⟩ : ∃ (f_14 : Nat → Int32) (a_14 : Nat → Nat → Int32), rOut f_13 a r_13 ((a 2) (7 : Int32).toNatClampNeg) = (f_14, a_14) := ⟨_, _, rfl⟩
      have kc_14 := kX5_out l D cI o f_13 a r_13 ((a 2) (7 : Int32).toNatClampNeg)
      rw [hB_14] at kc_14
      refine KC.callv (ci := 5) (rest := []) (wt := wR cI o f_14 a_14) (kc_14) (cwV 2 hts gX5_single_X5_out rfl rfl rfl (by decide +kernel) ⟨Nat.le_of_ble_eq_true rfl, Nat.le_of_ble_eq_true rfl⟩) ⟨hx, hb, hml, hown, hts⟩ hK hP hD hS hA rfl rfl rfl [0, 1, 2, 3, 4, 5, 6] [] [0, 1, 2, 3, 4, 5, 6] (by decide) rfl (wr := []) rfl (by decide) (by decide) (by decide) rfl rfl hl.1 rfl (Nat.le_of_ble_eq_true rfl) dX5_single_33 ⟨Nat.zero_le _, Nat.zero_le _⟩ (fun H locs hP hD hS => ?_)
      refine lv_bipush (v := 10) hx hb dX5_single_36 (by decide) ?_
      have hF : rSingle f a p1 = ((10 : Int32), f_14, a_14) := by simp only [rSingle, if_pos c_1, if_pos c_2, hB_13, hB_14]
      rw [hF]
      exact KC.reti hx hb hr hlocks hK hP hD hS dX5_single_38 rfl
  · refine lv_aload_n hx hb dX5_single_5 rfl (lv_at hl 0 rfl) ?_
    refine lv_aload_n hx hb dX5_single_6 rfl (lv_at hl 0 rfl) ?_
    obtain ⟨r_15, f_15, hB_15⟩ : ∃ (r_15 : Int32) (f_15 : Nat → Int32), rNextTwo f a = (r_15, f_15) := ⟨_, _, rfl⟩
    have kc_15 := kX5_nextTwo l D cI o f a
    rw [hB_15] at kc_15
    refine KC.calli (ci := 5) (rest := [.ref (o 20)]) (wt := wR cI o f_15 a) (kc_15) (cwV 0 hts gX5_single_X5_nextTwo rfl rfl rfl (by decide +kernel) ⟨Nat.le_of_ble_eq_true rfl, Nat.le_of_ble_eq_true rfl⟩) ⟨hx, hb, hml, hown, hts⟩ hK hP hD hS hA rfl rfl rfl [0, 1, 2, 3, 4, 5, 6] [] [0, 1, 2, 3, 4, 5, 6] (by decide) rfl (wr := []) rfl (by decide) (by decide) (by decide) rfl rfl hl.1 rfl (Nat.le_of_ble_eq_true rfl) dX5_single_7 ⟨Nat.zero_le _, Nat.zero_le _⟩ (fun H locs hP hD hS => ?_)
    refine pu_R_f1 (v := r_15) hx hb hts hi5 hown hK hP hD hS (hts (.fieldLink RX5 33 "InvaderBoardModel" "pc" "I") (by decide +kernel)) dX5_single_10 (fun H locs hP hD hS => ?_)
    refine lv_bipush (v := 10) hx hb dX5_single_13 (by decide) ?_
    have hF : rSingle f a p1 = ((10 : Int32), upd f_15 1 r_15, a) := by simp only [rSingle, if_neg c_1, hB_15]
    rw [hF]
    exact KC.reti hx hb hr hlocks hK hP hD hS dX5_single_15 rfl
def rHigh (f : Nat → Int32) (a : Nat → Nat → Int32) (p1 : Int32) (p2 : Int32) : Int32 × (Nat → Int32) × (Nat → Nat → Int32) :=
  if p2 = 0 then if rHolds f a p1 = 0 then ((5 : Int32), f, a)
    else (match rPop f a with
      | (r_27, f_27) => ((11 : Int32), upd f_27 1 r_27, a))
  else if p2 = (1 : Int32) then if p1 &&& (1 : Int32) = 0 then (match rPopped f a (p1 >>> ((1 : Int32) &&& 31)) with
        | (r_25, f_25, a_25) => (r_25, f_25, a_25))
      else (match rOdd f a p1 with
        | (r_24, f_24) => (r_24, f_24, a))
    else if p2 = (2 : Int32) then (match rNextTwo f a with
        | (r_21, f_21) => if rHolds f_21 a p1 = 0 then ((10 : Int32), upd f_21 1 (f_21 1), a)
          else ((10 : Int32), upd f_21 1 r_21, a))
      else if p2 = (3 : Int32) then (match rSingle f a p1 with
          | (r_20, f_20, a_20) => (r_20, f_20, a_20))
        else if p2 = (4 : Int32) then (match rNextTwo f a with
            | (r_17, f_17) => if rHolds f_17 a p1 = 0 then ((11 : Int32), f_17, a)
              else (match rCall f_17 a r_17 with
                | (r_19, f_19, a_19) => (r_19, f_19, a_19)))
          else if p2 = (5 : Int32) then if p1 &&& (1 : Int32) = (1 : Int32) then (match rNextTwo f a with
                | (r_15, f_15) => (match rCall f_15 a r_15 with
                  | (r_16, f_16, a_16) => (r_16, f_16, a_16)))
              else if p1 = (6 : Int32) then (match rPush f a ((((a 2) (7 : Int32).toNatClampNeg) <<< ((8 : Int32) &&& 31)) ||| (rFlags f a)) with
                  | (f_14, a_14) => ((11 : Int32), f_14, a_14))
                else (match rPush f a (rPair f a (p1 >>> ((1 : Int32) &&& 31))) with
                  | (f_13, a_13) => ((11 : Int32), f_13, a_13))
            else if p2 = (6 : Int32) then (match rNext f a with
                | (r_9, f_9) => (match rAlu f_9 a p1 r_9 with
                  | (f_10, a_10) => ((7 : Int32), f_10, a_10)))
              else (match rPush f a (f 1) with
                | (f_8, a_8) => ((11 : Int32), upd f_8 1 ((8 : Int32) * p1), a_8))
set_option maxHeartbeats 4000000 in
set_option maxRecDepth 100000 in
theorem kX5_high (l : Launch) (D : va_G) (cI : ClassId) (o : Nat → Nat) (f : Nat → Int32) (a : Nat → Nat → Int32) (p1 : Int32) (p2 : Int32) (h1 : vp_in p1 8) (hR : ∀ q : Int32, ¬ rRead f a q < 0) : KC l yX5_high wsX5_high 4 [.ref (o 20), .int p1, .int p2] D cI (wR cI o f a) (wR cI o ((rHigh f a p1 p2).2.1) ((rHigh f a p1 p2).2.2)) (some (.int (rHigh f a p1 p2).1)) := by
  refine KC.of (cc := cX5_high) (maxL := 4) (by decide) rfl (Nat.le_of_ble_eq_true rfl) ?_
  intro p e s m below meth c A hx hb hr hts hown hlocks hml hK hP hD hS hA ls hl
  have hl : lv_has ls 4 [(0, .ref (o 20)), (1, .int p1), (2, .int p2)] := hl
  have hown : s.vm.findClass RX5 = some m.cls := hown
  have hi5 : ∀ w ∈ u_ws RX5 TX5 24, w ∈ wsX5_high := by decide +kernel
  refine lv_iload_n hx hb dX5_high_0 rfl (lv_at hl 2 rfl) ?_
  refine lv_if_ne (tgt := 25) hx hb dX5_high_1 (by decide) (fun c_1 => ?_) (fun c_1 => ?_)
  · refine lv_iload_n hx hb dX5_high_25 rfl (lv_at hl 2 rfl) ?_
    refine lv_iconst (v := 1) hx hb dX5_high_26 (by decide) ?_
    refine lv_icmp_ne (tgt := 52) hx hb dX5_high_27 (by decide) (fun c_2 => ?_) (fun c_2 => ?_)
    · refine lv_iload_n hx hb dX5_high_52 rfl (lv_at hl 2 rfl) ?_
      refine lv_iconst (v := 2) hx hb dX5_high_53 (by decide) ?_
      refine lv_icmp_ne (tgt := 85) hx hb dX5_high_54 (by decide) (fun c_3 => ?_) (fun c_3 => ?_)
      · refine lv_iload_n hx hb dX5_high_85 rfl (lv_at hl 2 rfl) ?_
        refine lv_iconst (v := 3) hx hb dX5_high_86 (by decide) ?_
        refine lv_icmp_ne (tgt := 96) hx hb dX5_high_87 (by decide) (fun c_4 => ?_) (fun c_4 => ?_)
        · refine lv_iload_n hx hb dX5_high_96 rfl (lv_at hl 2 rfl) ?_
          refine lv_iconst (v := 4) hx hb dX5_high_97 (by decide) ?_
          refine lv_icmp_ne (tgt := 125) hx hb dX5_high_98 (by decide) (fun c_5 => ?_) (fun c_5 => ?_)
          · refine lv_iload_n hx hb dX5_high_125 rfl (lv_at hl 2 rfl) ?_
            refine lv_iconst (v := 5) hx hb dX5_high_126 (by decide) ?_
            refine lv_icmp_ne (tgt := 184) hx hb dX5_high_127 (by decide) (fun c_6 => ?_) (fun c_6 => ?_)
            · refine lv_iload_n hx hb dX5_high_184 rfl (lv_at hl 2 rfl) ?_
              refine lv_bipush (v := 6) hx hb dX5_high_185 (by decide) ?_
              refine lv_icmp_ne (tgt := 202) hx hb dX5_high_187 (by decide) (fun c_7 => ?_) (fun c_7 => ?_)
              · refine lv_aload_n hx hb dX5_high_202 rfl (lv_at hl 0 rfl) ?_
                refine lv_aload_n hx hb dX5_high_203 rfl (lv_at hl 0 rfl) ?_
                refine va_get (ci := 5) (v := .int (f 1)) (C := RX5) (T := TX5) (N := 24) hx hb hts hi5 hown hK hP 0 rfl rfl 5 (by decide) (hts (.fieldLink RX5 33 "InvaderBoardModel" "pc" "I") (by decide +kernel)) (fun _ h9 => h9) rfl dX5_high_204 ?_
                obtain ⟨f_8, a_8, hB_8⟩ : ∃ (f_8 : Nat → Int32) (a_8 : Nat → Nat → Int32), rPush f a (f 1) = (f_8, a_8) := ⟨_, _, rfl⟩
                have kc_8 := kX5_push l D cI o f a (f 1)
                rw [hB_8] at kc_8
                refine KC.callv (ci := 5) (rest := []) (wt := wR cI o f_8 a_8) (kc_8) (cwV 1 hts gX5_high_X5_push rfl rfl rfl (by decide +kernel) ⟨Nat.le_of_ble_eq_true rfl, Nat.le_of_ble_eq_true rfl⟩) ⟨hx, hb, hml, hown, hts⟩ hK hP hD hS hA rfl rfl rfl [0, 1, 2, 3, 4, 5, 6] [] [0, 1, 2, 3, 4, 5, 6] (by decide) rfl (wr := []) rfl (by decide) (by decide) (by decide) rfl rfl hl.1 rfl (Nat.le_of_ble_eq_true rfl) dX5_high_207 ⟨Nat.zero_le _, Nat.zero_le _⟩ (fun H locs hP hD hS => ?_)
                refine lv_aload_n hx hb dX5_high_210 rfl (lv_at hl 0 rfl) ?_
                refine lv_bipush (v := 8) hx hb dX5_high_211 (by decide) ?_
                refine lv_iload_n hx hb dX5_high_213 rfl (lv_at hl 1 rfl) ?_
                refine lv_imul hx hb dX5_high_214 ?_
                refine pu_R_f1 (v := (8 : Int32) * p1) hx hb hts hi5 hown hK hP hD hS (hts (.fieldLink RX5 33 "InvaderBoardModel" "pc" "I") (by decide +kernel)) dX5_high_215 (fun H locs hP hD hS => ?_)
                refine lv_bipush (v := 11) hx hb dX5_high_218 (by decide) ?_
                have hF : rHigh f a p1 p2 = ((11 : Int32), upd f_8 1 ((8 : Int32) * p1), a_8) := by simp only [rHigh, if_neg c_1, if_neg c_2, if_neg c_3, if_neg c_4, if_neg c_5, if_neg c_6, if_neg c_7, hB_8]
                rw [hF]
                exact KC.reti hx hb hr hlocks hK hP hD hS dX5_high_220 rfl
              · refine lv_aload_n hx hb dX5_high_190 rfl (lv_at hl 0 rfl) ?_
                refine lv_iload_n hx hb dX5_high_191 rfl (lv_at hl 1 rfl) ?_
                refine lv_aload_n hx hb dX5_high_192 rfl (lv_at hl 0 rfl) ?_
                obtain ⟨r_9, f_9, hB_9⟩ : ∃ (r_9 : Int32) (f_9 : Nat → Int32), rNext f a = (r_9, f_9) := ⟨_, _, rfl⟩
                have kc_9 := kX5_next l D cI o f a
                rw [hB_9] at kc_9
                refine KC.calli (ci := 5) (rest := [.int p1, .ref (o 20)]) (wt := wR cI o f_9 a) (kc_9) (cwV 0 hts gX5_high_X5_next rfl rfl rfl (by decide +kernel) ⟨Nat.le_of_ble_eq_true rfl, Nat.le_of_ble_eq_true rfl⟩) ⟨hx, hb, hml, hown, hts⟩ hK hP hD hS hA rfl rfl rfl [0, 1, 2, 3, 4, 5, 6] [] [0, 1, 2, 3, 4, 5, 6] (by decide) rfl (wr := []) rfl (by decide) (by decide) (by decide) rfl rfl hl.1 rfl (Nat.le_of_ble_eq_true rfl) dX5_high_193 ⟨Nat.zero_le _, Nat.zero_le _⟩ (fun H locs hP hD hS => ?_)
                obtain ⟨f_10, a_10, hB_10⟩ : ∃ (f_10 : Nat → Int32) (a_10 : Nat → Nat → Int32), rAlu f_9 a p1 r_9 = (f_10, a_10) := ⟨_, _, rfl⟩
                have kc_10 := kX5_alu l D cI o f_9 a p1 r_9
                rw [hB_10] at kc_10
                refine KC.callv (ci := 5) (rest := []) (wt := wR cI o f_10 a_10) (kc_10) (cwV 2 hts gX5_high_X5_alu rfl rfl rfl (by decide +kernel) ⟨Nat.le_of_ble_eq_true rfl, Nat.le_of_ble_eq_true rfl⟩) ⟨hx, hb, hml, hown, hts⟩ hK hP hD hS hA rfl rfl rfl [0, 1, 2, 3, 4, 5, 6] [] [0, 1, 2, 3, 4, 5, 6] (by decide) rfl (wr := []) rfl (by decide) (by decide) (by decide) rfl rfl hl.1 rfl (Nat.le_of_ble_eq_true rfl) dX5_high_196 ⟨Nat.zero_le _, Nat.zero_le _⟩ (fun H locs hP hD hS => ?_)
                refine lv_bipush (v := 7) hx hb dX5_high_199 (by decide) ?_
                have hF : rHigh f a p1 p2 = ((7 : Int32), f_10, a_10) := by simp only [rHigh, if_neg c_1, if_neg c_2, if_neg c_3, if_neg c_4, if_neg c_5, if_neg c_6, if_pos c_7, hB_9, hB_10]
                rw [hF]
                exact KC.reti hx hb hr hlocks hK hP hD hS dX5_high_201 rfl
            · refine lv_iload_n hx hb dX5_high_130 rfl (lv_at hl 1 rfl) ?_
              refine lv_iconst (v := 1) hx hb dX5_high_131 (by decide) ?_
              refine lv_iand hx hb dX5_high_132 ?_
              refine lv_iconst (v := 1) hx hb dX5_high_133 (by decide) ?_
              refine lv_icmp_ne (tgt := 146) hx hb dX5_high_134 (by decide) (fun c_11 => ?_) (fun c_11 => ?_)
              · refine lv_aload_n hx hb dX5_high_146 rfl (lv_at hl 0 rfl) ?_
                refine lv_iload_n hx hb dX5_high_147 rfl (lv_at hl 1 rfl) ?_
                refine lv_bipush (v := 6) hx hb dX5_high_148 (by decide) ?_
                refine lv_icmp_ne (tgt := 171) hx hb dX5_high_150 (by decide) (fun c_12 => ?_) (fun c_12 => ?_)
                · refine lv_aload_n hx hb dX5_high_171 rfl (lv_at hl 0 rfl) ?_
                  refine lv_iload_n hx hb dX5_high_172 rfl (lv_at hl 1 rfl) ?_
                  refine lv_iconst (v := 1) hx hb dX5_high_173 (by decide) ?_
                  refine lv_ishr hx hb dX5_high_174 ?_
                  refine KC.calli (ci := 5) (rest := [.ref (o 20)]) (wt := wR cI o f a) (kX5_pair l D cI o f a (p1 >>> ((1 : Int32) &&& 31)) (by first | exact h1 | exact hR | exact hs | exact xin_sh1 h1 | exact xin_a7 _ | exact rNext_nn hR (by assumption) | (unfold vp_in; decide) | decide | exact xin_ng 223 (by decide) (by assumption) (by assumption) | exact xin_le 255 (by decide) (by assumption) (by assumption))) (cwV 1 hts gX5_high_X5_pair rfl rfl rfl (by decide +kernel) ⟨Nat.le_of_ble_eq_true rfl, Nat.le_of_ble_eq_true rfl⟩) ⟨hx, hb, hml, hown, hts⟩ hK hP hD hS hA rfl rfl rfl [0, 1, 2, 3, 4, 5, 6] [] [0, 1, 2, 3, 4, 5, 6] (by decide) rfl (wr := []) rfl (by decide) (by decide) (by decide) rfl rfl hl.1 rfl (Nat.le_of_ble_eq_true rfl) dX5_high_175 ⟨Nat.zero_le _, Nat.zero_le _⟩ (fun H locs hP hD hS => ?_)
                  obtain ⟨f_13, a_13, hB_13⟩ : ∃ (f_13 : Nat → Int32) (a_13 : Nat → Nat → Int32), rPush f a (rPair f a (p1 >>> ((1 : Int32) &&& 31))) = (f_13, a_13) := ⟨_, _, rfl⟩
                  have kc_13 := kX5_push l D cI o f a (rPair f a (p1 >>> ((1 : Int32) &&& 31)))
                  rw [hB_13] at kc_13
                  refine KC.callv (ci := 5) (rest := []) (wt := wR cI o f_13 a_13) (kc_13) (cwV 1 hts gX5_high_X5_push rfl rfl rfl (by decide +kernel) ⟨Nat.le_of_ble_eq_true rfl, Nat.le_of_ble_eq_true rfl⟩) ⟨hx, hb, hml, hown, hts⟩ hK hP hD hS hA rfl rfl rfl [0, 1, 2, 3, 4, 5, 6] [] [0, 1, 2, 3, 4, 5, 6] (by decide) rfl (wr := []) rfl (by decide) (by decide) (by decide) rfl rfl hl.1 rfl (Nat.le_of_ble_eq_true rfl) dX5_high_178 ⟨Nat.zero_le _, Nat.zero_le _⟩ (fun H locs hP hD hS => ?_)
                  refine lv_bipush (v := 11) hx hb dX5_high_181 (by decide) ?_
                  have hF : rHigh f a p1 p2 = ((11 : Int32), f_13, a_13) := by simp only [rHigh, if_neg c_1, if_neg c_2, if_neg c_3, if_neg c_4, if_neg c_5, if_pos c_6, if_neg c_11, if_neg c_12, hB_13]
                  rw [hF]
                  exact KC.reti hx hb hr hlocks hK hP hD hS dX5_high_183 rfl
                · refine lv_aload_n hx hb dX5_high_153 rfl (lv_at hl 0 rfl) ?_
                  refine va_get (ci := 5) (v := .ref (o 23)) (C := RX5) (T := TX5) (N := 24) hx hb hts hi5 hown hK hP 0 rfl rfl 3 (by decide) (hts (.fieldLink RX5 16 "InvaderBoardModel" "reg" "[I") (by decide +kernel)) (fun _ h9 => h9) rfl dX5_high_154 ?_
                  refine lv_bipush (v := 7) hx hb dX5_high_157 (by decide) ?_
                  refine va_iald (f := a 2) hx hb hK hP 3 0 rfl rfl (by unfold vp_in; decide) dX5_high_159 ?_
                  refine lv_bipush (v := 8) hx hb dX5_high_160 (by decide) ?_
                  refine lv_ishl hx hb dX5_high_162 ?_
                  refine lv_aload_n hx hb dX5_high_163 rfl (lv_at hl 0 rfl) ?_
                  refine KC.calli (ci := 5) (rest := [.int (((a 2) (7 : Int32).toNatClampNeg) <<< ((8 : Int32) &&& 31)), .ref (o 20)]) (wt := wR cI o f a) (kX5_flags l D cI o f a) (cwV 0 hts gX5_high_X5_flags rfl rfl rfl (by decide +kernel) ⟨Nat.le_of_ble_eq_true rfl, Nat.le_of_ble_eq_true rfl⟩) ⟨hx, hb, hml, hown, hts⟩ hK hP hD hS hA rfl rfl rfl [0, 1, 2, 3, 4, 5, 6] [] [0, 1, 2, 3, 4, 5, 6] (by decide) rfl (wr := []) rfl (by decide) (by decide) (by decide) rfl rfl hl.1 rfl (Nat.le_of_ble_eq_true rfl) dX5_high_164 ⟨Nat.zero_le _, Nat.zero_le _⟩ (fun H locs hP hD hS => ?_)
                  refine lv_ior hx hb dX5_high_167 ?_
                  refine lv_goto (tgt := 178) hx hb dX5_high_168 (by decide) ?_
                  obtain ⟨f_14, a_14, hB_14⟩ : ∃ (f_14 : Nat → Int32) (a_14 : Nat → Nat → Int32), rPush f a ((((a 2) (7 : Int32).toNatClampNeg) <<< ((8 : Int32) &&& 31)) ||| (rFlags f a)) = (f_14, a_14) := ⟨_, _, rfl⟩
                  have kc_14 := kX5_push l D cI o f a ((((a 2) (7 : Int32).toNatClampNeg) <<< ((8 : Int32) &&& 31)) ||| (rFlags f a))
                  rw [hB_14] at kc_14
                  refine KC.callv (ci := 5) (rest := []) (wt := wR cI o f_14 a_14) (kc_14) (cwV 1 hts gX5_high_X5_push rfl rfl rfl (by decide +kernel) ⟨Nat.le_of_ble_eq_true rfl, Nat.le_of_ble_eq_true rfl⟩) ⟨hx, hb, hml, hown, hts⟩ hK hP hD hS hA rfl rfl rfl [0, 1, 2, 3, 4, 5, 6] [] [0, 1, 2, 3, 4, 5, 6] (by decide) rfl (wr := []) rfl (by decide) (by decide) (by decide) rfl rfl hl.1 rfl (Nat.le_of_ble_eq_true rfl) dX5_high_178 ⟨Nat.zero_le _, Nat.zero_le _⟩ (fun H locs hP hD hS => ?_)
                  refine lv_bipush (v := 11) hx hb dX5_high_181 (by decide) ?_
                  have hF : rHigh f a p1 p2 = ((11 : Int32), f_14, a_14) := by simp only [rHigh, if_neg c_1, if_neg c_2, if_neg c_3, if_neg c_4, if_neg c_5, if_pos c_6, if_neg c_11, if_pos c_12, hB_14]
                  rw [hF]
                  exact KC.reti hx hb hr hlocks hK hP hD hS dX5_high_183 rfl
              · refine lv_aload_n hx hb dX5_high_137 rfl (lv_at hl 0 rfl) ?_
                refine lv_aload_n hx hb dX5_high_138 rfl (lv_at hl 0 rfl) ?_
                obtain ⟨r_15, f_15, hB_15⟩ : ∃ (r_15 : Int32) (f_15 : Nat → Int32), rNextTwo f a = (r_15, f_15) := ⟨_, _, rfl⟩
                have kc_15 := kX5_nextTwo l D cI o f a
                rw [hB_15] at kc_15
                refine KC.calli (ci := 5) (rest := [.ref (o 20)]) (wt := wR cI o f_15 a) (kc_15) (cwV 0 hts gX5_high_X5_nextTwo rfl rfl rfl (by decide +kernel) ⟨Nat.le_of_ble_eq_true rfl, Nat.le_of_ble_eq_true rfl⟩) ⟨hx, hb, hml, hown, hts⟩ hK hP hD hS hA rfl rfl rfl [0, 1, 2, 3, 4, 5, 6] [] [0, 1, 2, 3, 4, 5, 6] (by decide) rfl (wr := []) rfl (by decide) (by decide) (by decide) rfl rfl hl.1 rfl (Nat.le_of_ble_eq_true rfl) dX5_high_139 ⟨Nat.zero_le _, Nat.zero_le _⟩ (fun H locs hP hD hS => ?_)
                obtain ⟨r_16, f_16, a_16, hB_16⟩ : ∃ (r_16 : Int32) (f_16 : Nat → Int32) (a_16 : Nat → Nat → Int32), rCall f_15 a r_15 = (r_16, f_16, a_16) := ⟨_, _, _, rfl⟩
                have kc_16 := kX5_call l D cI o f_15 a r_15
                rw [hB_16] at kc_16
                refine KC.calli (ci := 5) (rest := []) (wt := wR cI o f_16 a_16) (kc_16) (cwV 1 hts gX5_high_X5_call rfl rfl rfl (by decide +kernel) ⟨Nat.le_of_ble_eq_true rfl, Nat.le_of_ble_eq_true rfl⟩) ⟨hx, hb, hml, hown, hts⟩ hK hP hD hS hA rfl rfl rfl [0, 1, 2, 3, 4, 5, 6] [] [0, 1, 2, 3, 4, 5, 6] (by decide) rfl (wr := []) rfl (by decide) (by decide) (by decide) rfl rfl hl.1 rfl (Nat.le_of_ble_eq_true rfl) dX5_high_142 ⟨Nat.zero_le _, Nat.zero_le _⟩ (fun H locs hP hD hS => ?_)
                have hF : rHigh f a p1 p2 = (r_16, f_16, a_16) := by simp only [rHigh, if_neg c_1, if_neg c_2, if_neg c_3, if_neg c_4, if_neg c_5, if_pos c_6, if_pos c_11, hB_15, hB_16]
                rw [hF]
                exact KC.reti hx hb hr hlocks hK hP hD hS dX5_high_145 rfl
          · refine lv_aload_n hx hb dX5_high_101 rfl (lv_at hl 0 rfl) ?_
            obtain ⟨r_17, f_17, hB_17⟩ : ∃ (r_17 : Int32) (f_17 : Nat → Int32), rNextTwo f a = (r_17, f_17) := ⟨_, _, rfl⟩
            have kc_17 := kX5_nextTwo l D cI o f a
            rw [hB_17] at kc_17
            refine KC.calli (ci := 5) (rest := []) (wt := wR cI o f_17 a) (kc_17) (cwV 0 hts gX5_high_X5_nextTwo rfl rfl rfl (by decide +kernel) ⟨Nat.le_of_ble_eq_true rfl, Nat.le_of_ble_eq_true rfl⟩) ⟨hx, hb, hml, hown, hts⟩ hK hP hD hS hA rfl rfl rfl [0, 1, 2, 3, 4, 5, 6] [] [0, 1, 2, 3, 4, 5, 6] (by decide) rfl (wr := []) rfl (by decide) (by decide) (by decide) rfl rfl hl.1 rfl (Nat.le_of_ble_eq_true rfl) dX5_high_102 ⟨Nat.zero_le _, Nat.zero_le _⟩ (fun H locs hP hD hS => ?_)
            refine lv_istore_n (lv' := [(3, .int _), (0, .ref _), (1, .int _), (2, .int _)]) hx hb dX5_high_105 rfl hl (by decide) rfl (fun ls hl => ?_)
            refine lv_aload_n hx hb dX5_high_106 rfl (lv_at hl 1 rfl) ?_
            refine lv_iload_n hx hb dX5_high_107 rfl (lv_at hl 2 rfl) ?_
            refine KC.calli (ci := 5) (rest := []) (wt := wR cI o f_17 a) (kX5_holds l D cI o f_17 a p1) (cwV 1 hts gX5_high_X5_holds rfl rfl rfl (by decide +kernel) ⟨Nat.le_of_ble_eq_true rfl, Nat.le_of_ble_eq_true rfl⟩) ⟨hx, hb, hml, hown, hts⟩ hK hP hD hS hA rfl rfl rfl [0, 1, 2, 3, 4, 5, 6] [] [0, 1, 2, 3, 4, 5, 6] (by decide) rfl (wr := []) rfl (by decide) (by decide) (by decide) rfl rfl hl.1 rfl (Nat.le_of_ble_eq_true rfl) dX5_high_108 ⟨Nat.zero_le _, Nat.zero_le _⟩ (fun H locs hP hD hS => ?_)
            refine lv_if_eq (tgt := 122) hx hb dX5_high_111 (by decide) (fun c_18 => ?_) (fun c_18 => ?_)
            · refine lv_bipush (v := 11) hx hb dX5_high_122 (by decide) ?_
              have hF : rHigh f a p1 p2 = ((11 : Int32), f_17, a) := by simp only [rHigh, if_neg c_1, if_neg c_2, if_neg c_3, if_neg c_4, if_pos c_5, hB_17, if_pos c_18]
              rw [hF]
              exact KC.reti hx hb hr hlocks hK hP hD hS dX5_high_124 rfl
            · refine lv_aload_n hx hb dX5_high_114 rfl (lv_at hl 1 rfl) ?_
              refine lv_iload_n hx hb dX5_high_115 rfl (lv_at hl 0 rfl) ?_
              obtain ⟨r_19, f_19, a_19, hB_19⟩ : ∃ (r_19 : Int32) (f_19 : Nat → Int32) (a_19 : Nat → Nat → Int32), rCall f_17 a r_17 = (r_19, f_19, a_19) := ⟨_, _, _, rfl⟩
              have kc_19 := kX5_call l D cI o f_17 a r_17
              rw [hB_19] at kc_19
              refine KC.calli (ci := 5) (rest := []) (wt := wR cI o f_19 a_19) (kc_19) (cwV 1 hts gX5_high_X5_call rfl rfl rfl (by decide +kernel) ⟨Nat.le_of_ble_eq_true rfl, Nat.le_of_ble_eq_true rfl⟩) ⟨hx, hb, hml, hown, hts⟩ hK hP hD hS hA rfl rfl rfl [0, 1, 2, 3, 4, 5, 6] [] [0, 1, 2, 3, 4, 5, 6] (by decide) rfl (wr := []) rfl (by decide) (by decide) (by decide) rfl rfl hl.1 rfl (Nat.le_of_ble_eq_true rfl) dX5_high_116 ⟨Nat.zero_le _, Nat.zero_le _⟩ (fun H locs hP hD hS => ?_)
              refine lv_goto (tgt := 124) hx hb dX5_high_119 (by decide) ?_
              have hF : rHigh f a p1 p2 = (r_19, f_19, a_19) := by simp only [rHigh, if_neg c_1, if_neg c_2, if_neg c_3, if_neg c_4, if_pos c_5, hB_17, if_neg c_18, hB_19]
              rw [hF]
              exact KC.reti hx hb hr hlocks hK hP hD hS dX5_high_124 rfl
        · refine lv_aload_n hx hb dX5_high_90 rfl (lv_at hl 0 rfl) ?_
          refine lv_iload_n hx hb dX5_high_91 rfl (lv_at hl 1 rfl) ?_
          obtain ⟨r_20, f_20, a_20, hB_20⟩ : ∃ (r_20 : Int32) (f_20 : Nat → Int32) (a_20 : Nat → Nat → Int32), rSingle f a p1 = (r_20, f_20, a_20) := ⟨_, _, _, rfl⟩
          have kc_20 := kX5_single l D cI o f a p1 (by first | exact h1 | exact hR | exact hs | exact xin_sh1 h1 | exact xin_a7 _ | exact rNext_nn hR (by assumption) | (unfold vp_in; decide) | decide | exact xin_ng 223 (by decide) (by assumption) (by assumption) | exact xin_le 255 (by decide) (by assumption) (by assumption))
          rw [hB_20] at kc_20
          refine KC.calli (ci := 5) (rest := []) (wt := wR cI o f_20 a_20) (kc_20) (cwV 1 hts gX5_high_X5_single rfl rfl rfl (by decide +kernel) ⟨Nat.le_of_ble_eq_true rfl, Nat.le_of_ble_eq_true rfl⟩) ⟨hx, hb, hml, hown, hts⟩ hK hP hD hS hA rfl rfl rfl [0, 1, 2, 3, 4, 5, 6] [] [0, 1, 2, 3, 4, 5, 6] (by decide) rfl (wr := []) rfl (by decide) (by decide) (by decide) rfl rfl hl.1 rfl (Nat.le_of_ble_eq_true rfl) dX5_high_92 ⟨Nat.zero_le _, Nat.zero_le _⟩ (fun H locs hP hD hS => ?_)
          have hF : rHigh f a p1 p2 = (r_20, f_20, a_20) := by simp only [rHigh, if_neg c_1, if_neg c_2, if_neg c_3, if_pos c_4, hB_20]
          rw [hF]
          exact KC.reti hx hb hr hlocks hK hP hD hS dX5_high_95 rfl
      · refine lv_aload_n hx hb dX5_high_57 rfl (lv_at hl 0 rfl) ?_
        obtain ⟨r_21, f_21, hB_21⟩ : ∃ (r_21 : Int32) (f_21 : Nat → Int32), rNextTwo f a = (r_21, f_21) := ⟨_, _, rfl⟩
        have kc_21 := kX5_nextTwo l D cI o f a
        rw [hB_21] at kc_21
        refine KC.calli (ci := 5) (rest := []) (wt := wR cI o f_21 a) (kc_21) (cwV 0 hts gX5_high_X5_nextTwo rfl rfl rfl (by decide +kernel) ⟨Nat.le_of_ble_eq_true rfl, Nat.le_of_ble_eq_true rfl⟩) ⟨hx, hb, hml, hown, hts⟩ hK hP hD hS hA rfl rfl rfl [0, 1, 2, 3, 4, 5, 6] [] [0, 1, 2, 3, 4, 5, 6] (by decide) rfl (wr := []) rfl (by decide) (by decide) (by decide) rfl rfl hl.1 rfl (Nat.le_of_ble_eq_true rfl) dX5_high_58 ⟨Nat.zero_le _, Nat.zero_le _⟩ (fun H locs hP hD hS => ?_)
        refine lv_istore_n (lv' := [(3, .int _), (0, .ref _), (1, .int _), (2, .int _)]) hx hb dX5_high_61 rfl hl (by decide) rfl (fun ls hl => ?_)
        refine lv_aload_n hx hb dX5_high_62 rfl (lv_at hl 1 rfl) ?_
        refine lv_aload_n hx hb dX5_high_63 rfl (lv_at hl 1 rfl) ?_
        refine lv_iload_n hx hb dX5_high_64 rfl (lv_at hl 2 rfl) ?_
        refine KC.calli (ci := 5) (rest := [.ref (o 20)]) (wt := wR cI o f_21 a) (kX5_holds l D cI o f_21 a p1) (cwV 1 hts gX5_high_X5_holds rfl rfl rfl (by decide +kernel) ⟨Nat.le_of_ble_eq_true rfl, Nat.le_of_ble_eq_true rfl⟩) ⟨hx, hb, hml, hown, hts⟩ hK hP hD hS hA rfl rfl rfl [0, 1, 2, 3, 4, 5, 6] [] [0, 1, 2, 3, 4, 5, 6] (by decide) rfl (wr := []) rfl (by decide) (by decide) (by decide) rfl rfl hl.1 rfl (Nat.le_of_ble_eq_true rfl) dX5_high_65 ⟨Nat.zero_le _, Nat.zero_le _⟩ (fun H locs hP hD hS => ?_)
        refine lv_if_eq (tgt := 75) hx hb dX5_high_68 (by decide) (fun c_22 => ?_) (fun c_22 => ?_)
        · refine lv_aload_n hx hb dX5_high_75 rfl (lv_at hl 1 rfl) ?_
          refine va_get (ci := 5) (v := .int (f_21 1)) (C := RX5) (T := TX5) (N := 24) hx hb hts hi5 hown hK hP 0 rfl rfl 5 (by decide) (hts (.fieldLink RX5 33 "InvaderBoardModel" "pc" "I") (by decide +kernel)) (fun _ h9 => h9) rfl dX5_high_76 ?_
          refine pu_R_f1 (v := f_21 1) hx hb hts hi5 hown hK hP hD hS (hts (.fieldLink RX5 33 "InvaderBoardModel" "pc" "I") (by decide +kernel)) dX5_high_79 (fun H locs hP hD hS => ?_)
          refine lv_bipush (v := 10) hx hb dX5_high_82 (by decide) ?_
          have hF : rHigh f a p1 p2 = ((10 : Int32), upd f_21 1 (f_21 1), a) := by simp only [rHigh, if_neg c_1, if_neg c_2, if_pos c_3, hB_21, if_pos c_22]
          rw [hF]
          exact KC.reti hx hb hr hlocks hK hP hD hS dX5_high_84 rfl
        · refine lv_iload_n hx hb dX5_high_71 rfl (lv_at hl 0 rfl) ?_
          refine lv_goto (tgt := 79) hx hb dX5_high_72 (by decide) ?_
          refine pu_R_f1 (v := r_21) hx hb hts hi5 hown hK hP hD hS (hts (.fieldLink RX5 33 "InvaderBoardModel" "pc" "I") (by decide +kernel)) dX5_high_79 (fun H locs hP hD hS => ?_)
          refine lv_bipush (v := 10) hx hb dX5_high_82 (by decide) ?_
          have hF : rHigh f a p1 p2 = ((10 : Int32), upd f_21 1 r_21, a) := by simp only [rHigh, if_neg c_1, if_neg c_2, if_pos c_3, hB_21, if_neg c_22]
          rw [hF]
          exact KC.reti hx hb hr hlocks hK hP hD hS dX5_high_84 rfl
    · refine lv_iload_n hx hb dX5_high_30 rfl (lv_at hl 1 rfl) ?_
      refine lv_iconst (v := 1) hx hb dX5_high_31 (by decide) ?_
      refine lv_iand hx hb dX5_high_32 ?_
      refine lv_if_ne (tgt := 46) hx hb dX5_high_33 (by decide) (fun c_23 => ?_) (fun c_23 => ?_)
      · refine lv_aload_n hx hb dX5_high_46 rfl (lv_at hl 0 rfl) ?_
        refine lv_iload_n hx hb dX5_high_47 rfl (lv_at hl 1 rfl) ?_
        obtain ⟨r_24, f_24, hB_24⟩ : ∃ (r_24 : Int32) (f_24 : Nat → Int32), rOdd f a p1 = (r_24, f_24) := ⟨_, _, rfl⟩
        have kc_24 := kX5_odd l D cI o f a p1
        rw [hB_24] at kc_24
        refine KC.calli (ci := 5) (rest := []) (wt := wR cI o f_24 a) (kc_24) (cwV 1 hts gX5_high_X5_odd rfl rfl rfl (by decide +kernel) ⟨Nat.le_of_ble_eq_true rfl, Nat.le_of_ble_eq_true rfl⟩) ⟨hx, hb, hml, hown, hts⟩ hK hP hD hS hA rfl rfl rfl [0, 1, 2, 3, 4, 5, 6] [] [0, 1, 2, 3, 4, 5, 6] (by decide) rfl (wr := []) rfl (by decide) (by decide) (by decide) rfl rfl hl.1 rfl (Nat.le_of_ble_eq_true rfl) dX5_high_48 ⟨Nat.zero_le _, Nat.zero_le _⟩ (fun H locs hP hD hS => ?_)
        have hF : rHigh f a p1 p2 = (r_24, f_24, a) := by simp only [rHigh, if_neg c_1, if_pos c_2, if_neg c_23, hB_24]
        rw [hF]
        exact KC.reti hx hb hr hlocks hK hP hD hS dX5_high_51 rfl
      · refine lv_aload_n hx hb dX5_high_36 rfl (lv_at hl 0 rfl) ?_
        refine lv_iload_n hx hb dX5_high_37 rfl (lv_at hl 1 rfl) ?_
        refine lv_iconst (v := 1) hx hb dX5_high_38 (by decide) ?_
        refine lv_ishr hx hb dX5_high_39 ?_
        obtain ⟨r_25, f_25, a_25, hB_25⟩ : ∃ (r_25 : Int32) (f_25 : Nat → Int32) (a_25 : Nat → Nat → Int32), rPopped f a (p1 >>> ((1 : Int32) &&& 31)) = (r_25, f_25, a_25) := ⟨_, _, _, rfl⟩
        have kc_25 := kX5_popped l D cI o f a (p1 >>> ((1 : Int32) &&& 31)) (by first | exact h1 | exact hR | exact hs | exact xin_sh1 h1 | exact xin_a7 _ | exact rNext_nn hR (by assumption) | (unfold vp_in; decide) | decide | exact xin_ng 223 (by decide) (by assumption) (by assumption) | exact xin_le 255 (by decide) (by assumption) (by assumption))
        rw [hB_25] at kc_25
        refine KC.calli (ci := 5) (rest := []) (wt := wR cI o f_25 a_25) (kc_25) (cwV 1 hts gX5_high_X5_popped rfl rfl rfl (by decide +kernel) ⟨Nat.le_of_ble_eq_true rfl, Nat.le_of_ble_eq_true rfl⟩) ⟨hx, hb, hml, hown, hts⟩ hK hP hD hS hA rfl rfl rfl [0, 1, 2, 3, 4, 5, 6] [] [0, 1, 2, 3, 4, 5, 6] (by decide) rfl (wr := []) rfl (by decide) (by decide) (by decide) rfl rfl hl.1 rfl (Nat.le_of_ble_eq_true rfl) dX5_high_40 ⟨Nat.zero_le _, Nat.zero_le _⟩ (fun H locs hP hD hS => ?_)
        refine lv_goto (tgt := 51) hx hb dX5_high_43 (by decide) ?_
        have hF : rHigh f a p1 p2 = (r_25, f_25, a_25) := by simp only [rHigh, if_neg c_1, if_pos c_2, if_pos c_23, hB_25]
        rw [hF]
        exact KC.reti hx hb hr hlocks hK hP hD hS dX5_high_51 rfl
  · refine lv_aload_n hx hb dX5_high_4 rfl (lv_at hl 0 rfl) ?_
    refine lv_iload_n hx hb dX5_high_5 rfl (lv_at hl 1 rfl) ?_
    refine KC.calli (ci := 5) (rest := []) (wt := wR cI o f a) (kX5_holds l D cI o f a p1) (cwV 1 hts gX5_high_X5_holds rfl rfl rfl (by decide +kernel) ⟨Nat.le_of_ble_eq_true rfl, Nat.le_of_ble_eq_true rfl⟩) ⟨hx, hb, hml, hown, hts⟩ hK hP hD hS hA rfl rfl rfl [0, 1, 2, 3, 4, 5, 6] [] [0, 1, 2, 3, 4, 5, 6] (by decide) rfl (wr := []) rfl (by decide) (by decide) (by decide) rfl rfl hl.1 rfl (Nat.le_of_ble_eq_true rfl) dX5_high_6 ⟨Nat.zero_le _, Nat.zero_le _⟩ (fun H locs hP hD hS => ?_)
    refine lv_if_ne (tgt := 14) hx hb dX5_high_9 (by decide) (fun c_26 => ?_) (fun c_26 => ?_)
    · refine lv_aload_n hx hb dX5_high_14 rfl (lv_at hl 0 rfl) ?_
      refine lv_aload_n hx hb dX5_high_15 rfl (lv_at hl 0 rfl) ?_
      obtain ⟨r_27, f_27, hB_27⟩ : ∃ (r_27 : Int32) (f_27 : Nat → Int32), rPop f a = (r_27, f_27) := ⟨_, _, rfl⟩
      have kc_27 := kX5_pop l D cI o f a
      rw [hB_27] at kc_27
      refine KC.calli (ci := 5) (rest := [.ref (o 20)]) (wt := wR cI o f_27 a) (kc_27) (cwV 0 hts gX5_high_X5_pop rfl rfl rfl (by decide +kernel) ⟨Nat.le_of_ble_eq_true rfl, Nat.le_of_ble_eq_true rfl⟩) ⟨hx, hb, hml, hown, hts⟩ hK hP hD hS hA rfl rfl rfl [0, 1, 2, 3, 4, 5, 6] [] [0, 1, 2, 3, 4, 5, 6] (by decide) rfl (wr := []) rfl (by decide) (by decide) (by decide) rfl rfl hl.1 rfl (Nat.le_of_ble_eq_true rfl) dX5_high_16 ⟨Nat.zero_le _, Nat.zero_le _⟩ (fun H locs hP hD hS => ?_)
      refine pu_R_f1 (v := r_27) hx hb hts hi5 hown hK hP hD hS (hts (.fieldLink RX5 33 "InvaderBoardModel" "pc" "I") (by decide +kernel)) dX5_high_19 (fun H locs hP hD hS => ?_)
      refine lv_bipush (v := 11) hx hb dX5_high_22 (by decide) ?_
      have hF : rHigh f a p1 p2 = ((11 : Int32), upd f_27 1 r_27, a) := by simp only [rHigh, if_pos c_1, if_neg c_26, hB_27]
      rw [hF]
      exact KC.reti hx hb hr hlocks hK hP hD hS dX5_high_24 rfl
    · refine lv_iconst (v := 5) hx hb dX5_high_12 (by decide) ?_
      have hF : rHigh f a p1 p2 = ((5 : Int32), f, a) := by simp only [rHigh, if_pos c_1, if_pos c_26]
      rw [hF]
      exact KC.reti hx hb hr hlocks hK hP hD hS dX5_high_13 rfl
def rOne (f : Nat → Int32) (a : Nat → Nat → Int32)  : Int32 × (Nat → Int32) × (Nat → Nat → Int32) :=
  (match rNext f a with
  | (r_1, f_1) => if r_1 = (118 : Int32) then ((7 : Int32), upd f_1 4 (1 : Int32), a)
    else if r_1 >>> ((6 : Int32) &&& 31) = (1 : Int32) then if (r_1 >>> ((3 : Int32) &&& 31)) &&& (7 : Int32) = (6 : Int32) then ((7 : Int32), f_1, rSet f_1 a ((r_1 >>> ((3 : Int32) &&& 31)) &&& (7 : Int32)) (rGet f_1 a (r_1 &&& (7 : Int32))))
        else if r_1 &&& (7 : Int32) = (6 : Int32) then ((7 : Int32), f_1, rSet f_1 a ((r_1 >>> ((3 : Int32) &&& 31)) &&& (7 : Int32)) (rGet f_1 a (r_1 &&& (7 : Int32))))
          else ((5 : Int32), f_1, rSet f_1 a ((r_1 >>> ((3 : Int32) &&& 31)) &&& (7 : Int32)) (rGet f_1 a (r_1 &&& (7 : Int32))))
      else if r_1 >>> ((6 : Int32) &&& 31) = (2 : Int32) then (match rAlu f_1 a ((r_1 >>> ((3 : Int32) &&& 31)) &&& (7 : Int32)) (rGet f_1 a (r_1 &&& (7 : Int32))) with
          | (f_8, a_8) => if r_1 &&& (7 : Int32) = (6 : Int32) then ((7 : Int32), f_8, a_8)
            else ((4 : Int32), f_8, a_8))
        else if r_1 >>> ((6 : Int32) &&& 31) = 0 then (match rLow f_1 a ((r_1 >>> ((3 : Int32) &&& 31)) &&& (7 : Int32)) (r_1 &&& (7 : Int32)) with
            | (r_7, f_7, a_7) => (r_7, f_7, a_7))
          else (match rHigh f_1 a ((r_1 >>> ((3 : Int32) &&& 31)) &&& (7 : Int32)) (r_1 &&& (7 : Int32)) with
            | (r_6, f_6, a_6) => (r_6, f_6, a_6)))
set_option maxHeartbeats 4000000 in
set_option maxRecDepth 100000 in
theorem kX5_one (l : Launch) (D : va_G) (cI : ClassId) (o : Nat → Nat) (f : Nat → Int32) (a : Nat → Nat → Int32)  (hR : ∀ q : Int32, ¬ rRead f a q < 0) : KC l yX5_one wsX5_one 5 [.ref (o 20)] D cI (wR cI o f a) (wR cI o ((rOne f a).2.1) ((rOne f a).2.2)) (some (.int (rOne f a).1)) := by
  refine KC.of (cc := cX5_one) (maxL := 5) (by decide) rfl (Nat.le_of_ble_eq_true rfl) ?_
  intro p e s m below meth c A hx hb hr hts hown hlocks hml hK hP hD hS hA ls hl
  have hl : lv_has ls 5 [(0, .ref (o 20))] := hl
  have hown : s.vm.findClass RX5 = some m.cls := hown
  have hi5 : ∀ w ∈ u_ws RX5 TX5 24, w ∈ wsX5_one := by decide +kernel
  refine lv_aload_n hx hb dX5_one_0 rfl (lv_at hl 0 rfl) ?_
  obtain ⟨r_1, f_1, hB_1⟩ : ∃ (r_1 : Int32) (f_1 : Nat → Int32), rNext f a = (r_1, f_1) := ⟨_, _, rfl⟩
  have kc_1 := kX5_next l D cI o f a
  rw [hB_1] at kc_1
  refine KC.calli (ci := 5) (rest := []) (wt := wR cI o f_1 a) (kc_1) (cwV 0 hts gX5_one_X5_next rfl rfl rfl (by decide +kernel) ⟨Nat.le_of_ble_eq_true rfl, Nat.le_of_ble_eq_true rfl⟩) ⟨hx, hb, hml, hown, hts⟩ hK hP hD hS hA rfl rfl rfl [0, 1, 2, 3, 4, 5, 6] [] [0, 1, 2, 3, 4, 5, 6] (by decide) rfl (wr := []) rfl (by decide) (by decide) (by decide) rfl rfl hl.1 rfl (Nat.le_of_ble_eq_true rfl) dX5_one_1 ⟨Nat.zero_le _, Nat.zero_le _⟩ (fun H locs hP hD hS => ?_)
  refine lv_istore_n (lv' := [(1, .int _), (0, .ref _)]) hx hb dX5_one_4 rfl hl (by decide) rfl (fun ls hl => ?_)
  refine lv_iload_n hx hb dX5_one_5 rfl (lv_at hl 0 rfl) ?_
  refine lv_bipush (v := 6) hx hb dX5_one_6 (by decide) ?_
  refine lv_ishr hx hb dX5_one_8 ?_
  refine lv_istore_n (lv' := [(2, .int _), (1, .int _), (0, .ref _)]) hx hb dX5_one_9 rfl hl (by decide) rfl (fun ls hl => ?_)
  refine lv_iload_n hx hb dX5_one_10 rfl (lv_at hl 1 rfl) ?_
  refine lv_iconst (v := 3) hx hb dX5_one_11 (by decide) ?_
  refine lv_ishr hx hb dX5_one_12 ?_
  refine lv_bipush (v := 7) hx hb dX5_one_13 (by decide) ?_
  refine lv_iand hx hb dX5_one_15 ?_
  refine lv_istore_n (lv' := [(3, .int _), (2, .int _), (1, .int _), (0, .ref _)]) hx hb dX5_one_16 rfl hl (by decide) rfl (fun ls hl => ?_)
  refine lv_iload_n hx hb dX5_one_17 rfl (lv_at hl 2 rfl) ?_
  refine lv_bipush (v := 7) hx hb dX5_one_18 (by decide) ?_
  refine lv_iand hx hb dX5_one_20 ?_
  refine lv_istore (lv' := [(4, .int _), (3, .int _), (2, .int _), (1, .int _), (0, .ref _)]) hx hb dX5_one_21 hl (by decide) rfl (fun ls hl => ?_)
  refine lv_iload_n hx hb dX5_one_23 rfl (lv_at hl 3 rfl) ?_
  refine lv_bipush (v := 118) hx hb dX5_one_24 (by decide) ?_
  refine lv_icmp_ne (tgt := 37) hx hb dX5_one_26 (by decide) (fun c_2 => ?_) (fun c_2 => ?_)
  · refine lv_iload_n hx hb dX5_one_37 rfl (lv_at hl 2 rfl) ?_
    refine lv_iconst (v := 1) hx hb dX5_one_38 (by decide) ?_
    refine lv_icmp_ne (tgt := 73) hx hb dX5_one_39 (by decide) (fun c_3 => ?_) (fun c_3 => ?_)
    · refine lv_iload_n hx hb dX5_one_73 rfl (lv_at hl 2 rfl) ?_
      refine lv_iconst (v := 2) hx hb dX5_one_74 (by decide) ?_
      refine lv_icmp_ne (tgt := 103) hx hb dX5_one_75 (by decide) (fun c_4 => ?_) (fun c_4 => ?_)
      · refine lv_iload_n hx hb dX5_one_103 rfl (lv_at hl 2 rfl) ?_
        refine lv_if_ne (tgt := 117) hx hb dX5_one_104 (by decide) (fun c_5 => ?_) (fun c_5 => ?_)
        · refine lv_aload_n hx hb dX5_one_117 rfl (lv_at hl 4 rfl) ?_
          refine lv_iload_n hx hb dX5_one_118 rfl (lv_at hl 1 rfl) ?_
          refine lv_iload hx hb dX5_one_119 (lv_at hl 0 rfl) ?_
          obtain ⟨r_6, f_6, a_6, hB_6⟩ : ∃ (r_6 : Int32) (f_6 : Nat → Int32) (a_6 : Nat → Nat → Int32), rHigh f_1 a ((r_1 >>> ((3 : Int32) &&& 31)) &&& (7 : Int32)) (r_1 &&& (7 : Int32)) = (r_6, f_6, a_6) := ⟨_, _, _, rfl⟩
          have kc_6 := kX5_high l D cI o f_1 a ((r_1 >>> ((3 : Int32) &&& 31)) &&& (7 : Int32)) (r_1 &&& (7 : Int32)) (by first | exact h1 | exact hR | exact hs | exact xin_sh1 h1 | exact xin_a7 _ | exact rNext_nn hR (by assumption) | (unfold vp_in; decide) | decide | exact xin_ng 223 (by decide) (by assumption) (by assumption) | exact xin_le 255 (by decide) (by assumption) (by assumption)) (by first | exact h1 | exact hR | exact hs | exact xin_sh1 h1 | exact xin_a7 _ | exact rNext_nn hR (by assumption) | (unfold vp_in; decide) | decide | exact xin_ng 223 (by decide) (by assumption) (by assumption) | exact xin_le 255 (by decide) (by assumption) (by assumption))
          rw [hB_6] at kc_6
          refine KC.calli (ci := 5) (rest := []) (wt := wR cI o f_6 a_6) (kc_6) (cwV 2 hts gX5_one_X5_high rfl rfl rfl (by decide +kernel) ⟨Nat.le_of_ble_eq_true rfl, Nat.le_of_ble_eq_true rfl⟩) ⟨hx, hb, hml, hown, hts⟩ hK hP hD hS hA rfl rfl rfl [0, 1, 2, 3, 4, 5, 6] [] [0, 1, 2, 3, 4, 5, 6] (by decide) rfl (wr := []) rfl (by decide) (by decide) (by decide) rfl rfl hl.1 rfl (Nat.le_of_ble_eq_true rfl) dX5_one_121 ⟨Nat.zero_le _, Nat.zero_le _⟩ (fun H locs hP hD hS => ?_)
          have hF : rOne f a = (r_6, f_6, a_6) := by simp only [rOne, hB_1, if_neg c_2, if_neg c_3, if_neg c_4, if_neg c_5, hB_6]
          rw [hF]
          exact KC.reti hx hb hr hlocks hK hP hD hS dX5_one_124 rfl
        · refine lv_aload_n hx hb dX5_one_107 rfl (lv_at hl 4 rfl) ?_
          refine lv_iload_n hx hb dX5_one_108 rfl (lv_at hl 1 rfl) ?_
          refine lv_iload hx hb dX5_one_109 (lv_at hl 0 rfl) ?_
          obtain ⟨r_7, f_7, a_7, hB_7⟩ : ∃ (r_7 : Int32) (f_7 : Nat → Int32) (a_7 : Nat → Nat → Int32), rLow f_1 a ((r_1 >>> ((3 : Int32) &&& 31)) &&& (7 : Int32)) (r_1 &&& (7 : Int32)) = (r_7, f_7, a_7) := ⟨_, _, _, rfl⟩
          have kc_7 := kX5_low l D cI o f_1 a ((r_1 >>> ((3 : Int32) &&& 31)) &&& (7 : Int32)) (r_1 &&& (7 : Int32)) (by first | exact h1 | exact hR | exact hs | exact xin_sh1 h1 | exact xin_a7 _ | exact rNext_nn hR (by assumption) | (unfold vp_in; decide) | decide | exact xin_ng 223 (by decide) (by assumption) (by assumption) | exact xin_le 255 (by decide) (by assumption) (by assumption))
          rw [hB_7] at kc_7
          refine KC.calli (ci := 5) (rest := []) (wt := wR cI o f_7 a_7) (kc_7) (cwV 2 hts gX5_one_X5_low rfl rfl rfl (by decide +kernel) ⟨Nat.le_of_ble_eq_true rfl, Nat.le_of_ble_eq_true rfl⟩) ⟨hx, hb, hml, hown, hts⟩ hK hP hD hS hA rfl rfl rfl [0, 1, 2, 3, 4, 5, 6] [] [0, 1, 2, 3, 4, 5, 6] (by decide) rfl (wr := []) rfl (by decide) (by decide) (by decide) rfl rfl hl.1 rfl (Nat.le_of_ble_eq_true rfl) dX5_one_111 ⟨Nat.zero_le _, Nat.zero_le _⟩ (fun H locs hP hD hS => ?_)
          refine lv_goto (tgt := 124) hx hb dX5_one_114 (by decide) ?_
          have hF : rOne f a = (r_7, f_7, a_7) := by simp only [rOne, hB_1, if_neg c_2, if_neg c_3, if_neg c_4, if_pos c_5, hB_7]
          rw [hF]
          exact KC.reti hx hb hr hlocks hK hP hD hS dX5_one_124 rfl
      · refine lv_aload_n hx hb dX5_one_78 rfl (lv_at hl 4 rfl) ?_
        refine lv_iload_n hx hb dX5_one_79 rfl (lv_at hl 1 rfl) ?_
        refine lv_aload_n hx hb dX5_one_80 rfl (lv_at hl 4 rfl) ?_
        refine lv_iload hx hb dX5_one_81 (lv_at hl 0 rfl) ?_
        refine KC.calli (ci := 5) (rest := [.int ((r_1 >>> ((3 : Int32) &&& 31)) &&& (7 : Int32)), .ref (o 20)]) (wt := wR cI o f_1 a) (kX5_get l D cI o f_1 a (r_1 &&& (7 : Int32)) (by first | exact h1 | exact hR | exact hs | exact xin_sh1 h1 | exact xin_a7 _ | exact rNext_nn hR (by assumption) | (unfold vp_in; decide) | decide | exact xin_ng 223 (by decide) (by assumption) (by assumption) | exact xin_le 255 (by decide) (by assumption) (by assumption))) (cwV 1 hts gX5_one_X5_get rfl rfl rfl (by decide +kernel) ⟨Nat.le_of_ble_eq_true rfl, Nat.le_of_ble_eq_true rfl⟩) ⟨hx, hb, hml, hown, hts⟩ hK hP hD hS hA rfl rfl rfl [0, 1, 2, 3, 4, 5, 6] [] [0, 1, 2, 3, 4, 5, 6] (by decide) rfl (wr := []) rfl (by decide) (by decide) (by decide) rfl rfl hl.1 rfl (Nat.le_of_ble_eq_true rfl) dX5_one_83 ⟨Nat.zero_le _, Nat.zero_le _⟩ (fun H locs hP hD hS => ?_)
        obtain ⟨f_8, a_8, hB_8⟩ : ∃ (f_8 : Nat → Int32) (a_8 : Nat → Nat → Int32), rAlu f_1 a ((r_1 >>> ((3 : Int32) &&& 31)) &&& (7 : Int32)) (rGet f_1 a (r_1 &&& (7 : Int32))) = (f_8, a_8) := ⟨_, _, rfl⟩
        have kc_8 := kX5_alu l D cI o f_1 a ((r_1 >>> ((3 : Int32) &&& 31)) &&& (7 : Int32)) (rGet f_1 a (r_1 &&& (7 : Int32)))
        rw [hB_8] at kc_8
        refine KC.callv (ci := 5) (rest := []) (wt := wR cI o f_8 a_8) (kc_8) (cwV 2 hts gX5_one_X5_alu rfl rfl rfl (by decide +kernel) ⟨Nat.le_of_ble_eq_true rfl, Nat.le_of_ble_eq_true rfl⟩) ⟨hx, hb, hml, hown, hts⟩ hK hP hD hS hA rfl rfl rfl [0, 1, 2, 3, 4, 5, 6] [] [0, 1, 2, 3, 4, 5, 6] (by decide) rfl (wr := []) rfl (by decide) (by decide) (by decide) rfl rfl hl.1 rfl (Nat.le_of_ble_eq_true rfl) dX5_one_86 ⟨Nat.zero_le _, Nat.zero_le _⟩ (fun H locs hP hD hS => ?_)
        refine lv_iload hx hb dX5_one_89 (lv_at hl 0 rfl) ?_
        refine lv_bipush (v := 6) hx hb dX5_one_91 (by decide) ?_
        refine lv_icmp_ne (tgt := 101) hx hb dX5_one_93 (by decide) (fun c_9 => ?_) (fun c_9 => ?_)
        · refine lv_iconst (v := 4) hx hb dX5_one_101 (by decide) ?_
          have hF : rOne f a = ((4 : Int32), f_8, a_8) := by simp only [rOne, hB_1, if_neg c_2, if_neg c_3, if_pos c_4, hB_8, if_neg c_9]
          rw [hF]
          exact KC.reti hx hb hr hlocks hK hP hD hS dX5_one_102 rfl
        · refine lv_bipush (v := 7) hx hb dX5_one_96 (by decide) ?_
          refine lv_goto (tgt := 102) hx hb dX5_one_98 (by decide) ?_
          have hF : rOne f a = ((7 : Int32), f_8, a_8) := by simp only [rOne, hB_1, if_neg c_2, if_neg c_3, if_pos c_4, hB_8, if_pos c_9]
          rw [hF]
          exact KC.reti hx hb hr hlocks hK hP hD hS dX5_one_102 rfl
    · refine lv_aload_n hx hb dX5_one_42 rfl (lv_at hl 4 rfl) ?_
      refine lv_iload_n hx hb dX5_one_43 rfl (lv_at hl 1 rfl) ?_
      refine lv_aload_n hx hb dX5_one_44 rfl (lv_at hl 4 rfl) ?_
      refine lv_iload hx hb dX5_one_45 (lv_at hl 0 rfl) ?_
      refine KC.calli (ci := 5) (rest := [.int ((r_1 >>> ((3 : Int32) &&& 31)) &&& (7 : Int32)), .ref (o 20)]) (wt := wR cI o f_1 a) (kX5_get l D cI o f_1 a (r_1 &&& (7 : Int32)) (by first | exact h1 | exact hR | exact hs | exact xin_sh1 h1 | exact xin_a7 _ | exact rNext_nn hR (by assumption) | (unfold vp_in; decide) | decide | exact xin_ng 223 (by decide) (by assumption) (by assumption) | exact xin_le 255 (by decide) (by assumption) (by assumption))) (cwV 1 hts gX5_one_X5_get rfl rfl rfl (by decide +kernel) ⟨Nat.le_of_ble_eq_true rfl, Nat.le_of_ble_eq_true rfl⟩) ⟨hx, hb, hml, hown, hts⟩ hK hP hD hS hA rfl rfl rfl [0, 1, 2, 3, 4, 5, 6] [] [0, 1, 2, 3, 4, 5, 6] (by decide) rfl (wr := []) rfl (by decide) (by decide) (by decide) rfl rfl hl.1 rfl (Nat.le_of_ble_eq_true rfl) dX5_one_47 ⟨Nat.zero_le _, Nat.zero_le _⟩ (fun H locs hP hD hS => ?_)
      refine KC.callv (ci := 5) (rest := []) (wt := wR cI o f_1 (rSet f_1 a ((r_1 >>> ((3 : Int32) &&& 31)) &&& (7 : Int32)) (rGet f_1 a (r_1 &&& (7 : Int32))))) (kX5_set l D cI o f_1 a ((r_1 >>> ((3 : Int32) &&& 31)) &&& (7 : Int32)) (rGet f_1 a (r_1 &&& (7 : Int32))) (by first | exact h1 | exact hR | exact hs | exact xin_sh1 h1 | exact xin_a7 _ | exact rNext_nn hR (by assumption) | (unfold vp_in; decide) | decide | exact xin_ng 223 (by decide) (by assumption) (by assumption) | exact xin_le 255 (by decide) (by assumption) (by assumption))) (cwV 2 hts gX5_one_X5_set rfl rfl rfl (by decide +kernel) ⟨Nat.le_of_ble_eq_true rfl, Nat.le_of_ble_eq_true rfl⟩) ⟨hx, hb, hml, hown, hts⟩ hK hP hD hS hA rfl rfl rfl [0, 1, 2, 3, 4, 5, 6] [] [0, 1, 2, 3, 4, 5, 6] (by decide) rfl (wr := []) rfl (by decide) (by decide) (by decide) rfl rfl hl.1 rfl (Nat.le_of_ble_eq_true rfl) dX5_one_50 ⟨Nat.zero_le _, Nat.zero_le _⟩ (fun H locs hP hD hS => ?_)
      refine lv_iload_n hx hb dX5_one_53 rfl (lv_at hl 1 rfl) ?_
      refine lv_bipush (v := 6) hx hb dX5_one_54 (by decide) ?_
      refine lv_icmp_eq (tgt := 66) hx hb dX5_one_56 (by decide) (fun c_10 => ?_) (fun c_10 => ?_)
      · refine lv_bipush (v := 7) hx hb dX5_one_66 (by decide) ?_
        refine lv_goto (tgt := 72) hx hb dX5_one_68 (by decide) ?_
        have hF : rOne f a = ((7 : Int32), f_1, rSet f_1 a ((r_1 >>> ((3 : Int32) &&& 31)) &&& (7 : Int32)) (rGet f_1 a (r_1 &&& (7 : Int32)))) := by simp only [rOne, hB_1, if_neg c_2, if_pos c_3, if_pos c_10]
        rw [hF]
        exact KC.reti hx hb hr hlocks hK hP hD hS dX5_one_72 rfl
      · refine lv_iload hx hb dX5_one_59 (lv_at hl 0 rfl) ?_
        refine lv_bipush (v := 6) hx hb dX5_one_61 (by decide) ?_
        refine lv_icmp_ne (tgt := 71) hx hb dX5_one_63 (by decide) (fun c_11 => ?_) (fun c_11 => ?_)
        · refine lv_iconst (v := 5) hx hb dX5_one_71 (by decide) ?_
          have hF : rOne f a = ((5 : Int32), f_1, rSet f_1 a ((r_1 >>> ((3 : Int32) &&& 31)) &&& (7 : Int32)) (rGet f_1 a (r_1 &&& (7 : Int32)))) := by simp only [rOne, hB_1, if_neg c_2, if_pos c_3, if_neg c_10, if_neg c_11]
          rw [hF]
          exact KC.reti hx hb hr hlocks hK hP hD hS dX5_one_72 rfl
        · refine lv_bipush (v := 7) hx hb dX5_one_66 (by decide) ?_
          refine lv_goto (tgt := 72) hx hb dX5_one_68 (by decide) ?_
          have hF : rOne f a = ((7 : Int32), f_1, rSet f_1 a ((r_1 >>> ((3 : Int32) &&& 31)) &&& (7 : Int32)) (rGet f_1 a (r_1 &&& (7 : Int32)))) := by simp only [rOne, hB_1, if_neg c_2, if_pos c_3, if_neg c_10, if_pos c_11]
          rw [hF]
          exact KC.reti hx hb hr hlocks hK hP hD hS dX5_one_72 rfl
  · refine lv_aload_n hx hb dX5_one_29 rfl (lv_at hl 4 rfl) ?_
    refine lv_iconst (v := 1) hx hb dX5_one_30 (by decide) ?_
    refine pu_R_f4 (v := (1 : Int32)) hx hb hts hi5 hown hK hP hD hS (hts (.fieldLink RX5 82 "InvaderBoardModel" "halted" "Z") (by decide +kernel)) (by decide +kernel) (by decide +kernel) dX5_one_31 (fun H locs hP hD hS => ?_)
    refine lv_bipush (v := 7) hx hb dX5_one_34 (by decide) ?_
    have hF : rOne f a = ((7 : Int32), upd f_1 4 (1 : Int32), a) := by simp only [rOne, hB_1, if_pos c_2]
    rw [hF]
    exact KC.reti hx hb hr hlocks hK hP hD hS dX5_one_36 rfl

/-! a book's numbers, laid anew (nrm), and what holds behind each call (VV); checks by computing -/
def plc : List (Nat × Nat × Nat) := [(nat_lit 4294967296, nat_lit 69, nat_lit 5), (nat_lit 4294967296, nat_lit 69, nat_lit 4), (nat_lit 4294967296, nat_lit 69, nat_lit 3), (nat_lit 4294967296, nat_lit 69, nat_lit 2), (nat_lit 4294967296, nat_lit 69, nat_lit 1), (nat_lit 4294967296, nat_lit 69, nat_lit 0), (nat_lit 9173994463960286046443283581208347763186259956673124494950355357547691504353939232280074212440502746218496, nat_lit 68, nat_lit 5), (nat_lit 4294967296, nat_lit 68, nat_lit 4), (nat_lit 4294967296, nat_lit 68, nat_lit 3), (nat_lit 4294967296, nat_lit 68, nat_lit 2), (nat_lit 4294967296, nat_lit 68, nat_lit 1), (nat_lit 4294967296, nat_lit 68, nat_lit 0), (nat_lit 9173994463960286046443283581208347763186259956673124494950355357547691504353939232280074212440502746218496, nat_lit 67, nat_lit 5), (nat_lit 4294967296, nat_lit 67, nat_lit 4), (nat_lit 4294967296, nat_lit 67, nat_lit 3), (nat_lit 4294967296, nat_lit 67, nat_lit 2), (nat_lit 4294967296, nat_lit 67, nat_lit 1), (nat_lit 4294967296, nat_lit 67, nat_lit 0), (nat_lit 9173994463960286046443283581208347763186259956673124494950355357547691504353939232280074212440502746218496, nat_lit 66, nat_lit 5), (nat_lit 4294967296, nat_lit 66, nat_lit 4), (nat_lit 4294967296, nat_lit 66, nat_lit 3), (nat_lit 4294967296, nat_lit 66, nat_lit 2), (nat_lit 4294967296, nat_lit 66, nat_lit 1), (nat_lit 4294967296, nat_lit 66, nat_lit 0), (nat_lit 9173994463960286046443283581208347763186259956673124494950355357547691504353939232280074212440502746218496, nat_lit 65, nat_lit 5), (nat_lit 4294967296, nat_lit 65, nat_lit 4), (nat_lit 4294967296, nat_lit 65, nat_lit 3), (nat_lit 4294967296, nat_lit 65, nat_lit 2), (nat_lit 4294967296, nat_lit 65, nat_lit 1), (nat_lit 4294967296, nat_lit 65, nat_lit 0), (nat_lit 9173994463960286046443283581208347763186259956673124494950355357547691504353939232280074212440502746218496, nat_lit 64, nat_lit 5), (nat_lit 4294967296, nat_lit 64, nat_lit 4), (nat_lit 4294967296, nat_lit 64, nat_lit 3), (nat_lit 4294967296, nat_lit 64, nat_lit 2), (nat_lit 4294967296, nat_lit 64, nat_lit 1), (nat_lit 4294967296, nat_lit 64, nat_lit 0), (nat_lit 9173994463960286046443283581208347763186259956673124494950355357547691504353939232280074212440502746218496, nat_lit 63, nat_lit 5), (nat_lit 4294967296, nat_lit 63, nat_lit 4), (nat_lit 4294967296, nat_lit 63, nat_lit 3), (nat_lit 4294967296, nat_lit 63, nat_lit 2), (nat_lit 4294967296, nat_lit 63, nat_lit 1), (nat_lit 4294967296, nat_lit 63, nat_lit 0), (nat_lit 9173994463960286046443283581208347763186259956673124494950355357547691504353939232280074212440502746218496, nat_lit 62, nat_lit 5), (nat_lit 4294967296, nat_lit 62, nat_lit 4), (nat_lit 4294967296, nat_lit 62, nat_lit 3), (nat_lit 4294967296, nat_lit 62, nat_lit 2), (nat_lit 4294967296, nat_lit 62, nat_lit 1), (nat_lit 4294967296, nat_lit 62, nat_lit 0), (nat_lit 9173994463960286046443283581208347763186259956673124494950355357547691504353939232280074212440502746218496, nat_lit 61, nat_lit 5), (nat_lit 4294967296, nat_lit 61, nat_lit 4), (nat_lit 4294967296, nat_lit 61, nat_lit 3), (nat_lit 4294967296, nat_lit 61, nat_lit 2), (nat_lit 4294967296, nat_lit 61, nat_lit 1), (nat_lit 4294967296, nat_lit 61, nat_lit 0), (nat_lit 9173994463960286046443283581208347763186259956673124494950355357547691504353939232280074212440502746218496, nat_lit 60, nat_lit 5), (nat_lit 4294967296, nat_lit 60, nat_lit 4), (nat_lit 4294967296, nat_lit 60, nat_lit 3), (nat_lit 4294967296, nat_lit 60, nat_lit 2), (nat_lit 4294967296, nat_lit 60, nat_lit 1), (nat_lit 4294967296, nat_lit 60, nat_lit 0), (nat_lit 9173994463960286046443283581208347763186259956673124494950355357547691504353939232280074212440502746218496, nat_lit 59, nat_lit 5), (nat_lit 4294967296, nat_lit 59, nat_lit 4), (nat_lit 4294967296, nat_lit 59, nat_lit 3), (nat_lit 4294967296, nat_lit 59, nat_lit 2), (nat_lit 4294967296, nat_lit 59, nat_lit 1), (nat_lit 4294967296, nat_lit 59, nat_lit 0), (nat_lit 9173994463960286046443283581208347763186259956673124494950355357547691504353939232280074212440502746218496, nat_lit 58, nat_lit 5), (nat_lit 4294967296, nat_lit 58, nat_lit 4), (nat_lit 4294967296, nat_lit 58, nat_lit 3), (nat_lit 4294967296, nat_lit 58, nat_lit 2), (nat_lit 4294967296, nat_lit 58, nat_lit 1), (nat_lit 4294967296, nat_lit 58, nat_lit 0), (nat_lit 9173994463960286046443283581208347763186259956673124494950355357547691504353939232280074212440502746218496, nat_lit 57, nat_lit 5), (nat_lit 4294967296, nat_lit 57, nat_lit 4), (nat_lit 4294967296, nat_lit 57, nat_lit 3), (nat_lit 4294967296, nat_lit 57, nat_lit 2), (nat_lit 4294967296, nat_lit 57, nat_lit 1), (nat_lit 4294967296, nat_lit 57, nat_lit 0), (nat_lit 9173994463960286046443283581208347763186259956673124494950355357547691504353939232280074212440502746218496, nat_lit 56, nat_lit 5), (nat_lit 4294967296, nat_lit 56, nat_lit 4), (nat_lit 4294967296, nat_lit 56, nat_lit 3), (nat_lit 4294967296, nat_lit 56, nat_lit 2), (nat_lit 4294967296, nat_lit 56, nat_lit 1), (nat_lit 4294967296, nat_lit 56, nat_lit 0), (nat_lit 9173994463960286046443283581208347763186259956673124494950355357547691504353939232280074212440502746218496, nat_lit 55, nat_lit 5), (nat_lit 4294967296, nat_lit 55, nat_lit 4), (nat_lit 4294967296, nat_lit 55, nat_lit 3), (nat_lit 4294967296, nat_lit 55, nat_lit 2), (nat_lit 4294967296, nat_lit 55, nat_lit 1), (nat_lit 4294967296, nat_lit 55, nat_lit 0), (nat_lit 9173994463960286046443283581208347763186259956673124494950355357547691504353939232280074212440502746218496, nat_lit 54, nat_lit 5), (nat_lit 4294967296, nat_lit 54, nat_lit 4), (nat_lit 4294967296, nat_lit 54, nat_lit 3), (nat_lit 4294967296, nat_lit 54, nat_lit 2), (nat_lit 4294967296, nat_lit 54, nat_lit 1), (nat_lit 4294967296, nat_lit 54, nat_lit 0), (nat_lit 9173994463960286046443283581208347763186259956673124494950355357547691504353939232280074212440502746218496, nat_lit 53, nat_lit 5), (nat_lit 4294967296, nat_lit 53, nat_lit 4), (nat_lit 4294967296, nat_lit 53, nat_lit 3), (nat_lit 4294967296, nat_lit 53, nat_lit 2), (nat_lit 4294967296, nat_lit 53, nat_lit 1), (nat_lit 4294967296, nat_lit 53, nat_lit 0), (nat_lit 9173994463960286046443283581208347763186259956673124494950355357547691504353939232280074212440502746218496, nat_lit 52, nat_lit 5), (nat_lit 4294967296, nat_lit 52, nat_lit 4), (nat_lit 4294967296, nat_lit 52, nat_lit 3), (nat_lit 4294967296, nat_lit 52, nat_lit 2), (nat_lit 4294967296, nat_lit 52, nat_lit 1), (nat_lit 4294967296, nat_lit 52, nat_lit 0), (nat_lit 9173994463960286046443283581208347763186259956673124494950355357547691504353939232280074212440502746218496, nat_lit 51, nat_lit 5), (nat_lit 4294967296, nat_lit 51, nat_lit 4), (nat_lit 4294967296, nat_lit 51, nat_lit 3), (nat_lit 4294967296, nat_lit 51, nat_lit 2), (nat_lit 4294967296, nat_lit 51, nat_lit 1), (nat_lit 4294967296, nat_lit 51, nat_lit 0), (nat_lit 9173994463960286046443283581208347763186259956673124494950355357547691504353939232280074212440502746218496, nat_lit 50, nat_lit 5), (nat_lit 4294967296, nat_lit 50, nat_lit 4), (nat_lit 4294967296, nat_lit 50, nat_lit 3), (nat_lit 4294967296, nat_lit 50, nat_lit 2), (nat_lit 4294967296, nat_lit 50, nat_lit 1), (nat_lit 4294967296, nat_lit 50, nat_lit 0), (nat_lit 169230328010303641331690318856389386196071598838855992136870091590247882556495704531248437872567112920983350278405979725889536, nat_lit 49, nat_lit 3), (nat_lit 4294967296, nat_lit 49, nat_lit 2), (nat_lit 4294967296, nat_lit 49, nat_lit 1), (nat_lit 4294967296, nat_lit 49, nat_lit 0), (nat_lit 169230328010303641331690318856389386196071598838855992136870091590247882556495704531248437872567112920983350278405979725889536, nat_lit 48, nat_lit 3), (nat_lit 4294967296, nat_lit 48, nat_lit 2), (nat_lit 4294967296, nat_lit 48, nat_lit 1), (nat_lit 4294967296, nat_lit 48, nat_lit 0), (nat_lit 169230328010303641331690318856389386196071598838855992136870091590247882556495704531248437872567112920983350278405979725889536, nat_lit 47, nat_lit 3), (nat_lit 4294967296, nat_lit 47, nat_lit 2), (nat_lit 4294967296, nat_lit 47, nat_lit 1), (nat_lit 4294967296, nat_lit 47, nat_lit 0), (nat_lit 169230328010303641331690318856389386196071598838855992136870091590247882556495704531248437872567112920983350278405979725889536, nat_lit 46, nat_lit 3), (nat_lit 4294967296, nat_lit 46, nat_lit 2), (nat_lit 4294967296, nat_lit 46, nat_lit 1), (nat_lit 4294967296, nat_lit 46, nat_lit 0), (nat_lit 169230328010303641331690318856389386196071598838855992136870091590247882556495704531248437872567112920983350278405979725889536, nat_lit 45, nat_lit 3), (nat_lit 4294967296, nat_lit 45, nat_lit 2), (nat_lit 4294967296, nat_lit 45, nat_lit 1), (nat_lit 4294967296, nat_lit 45, nat_lit 0), (nat_lit 169230328010303641331690318856389386196071598838855992136870091590247882556495704531248437872567112920983350278405979725889536, nat_lit 44, nat_lit 3), (nat_lit 4294967296, nat_lit 44, nat_lit 2), (nat_lit 4294967296, nat_lit 44, nat_lit 1), (nat_lit 4294967296, nat_lit 44, nat_lit 0), (nat_lit 169230328010303641331690318856389386196071598838855992136870091590247882556495704531248437872567112920983350278405979725889536, nat_lit 43, nat_lit 3), (nat_lit 4294967296, nat_lit 43, nat_lit 2), (nat_lit 4294967296, nat_lit 43, nat_lit 1), (nat_lit 4294967296, nat_lit 43, nat_lit 0), (nat_lit 169230328010303641331690318856389386196071598838855992136870091590247882556495704531248437872567112920983350278405979725889536, nat_lit 42, nat_lit 3), (nat_lit 4294967296, nat_lit 42, nat_lit 2), (nat_lit 4294967296, nat_lit 42, nat_lit 1), (nat_lit 4294967296, nat_lit 42, nat_lit 0), (nat_lit 169230328010303641331690318856389386196071598838855992136870091590247882556495704531248437872567112920983350278405979725889536, nat_lit 41, nat_lit 3), (nat_lit 4294967296, nat_lit 41, nat_lit 2), (nat_lit 4294967296, nat_lit 41, nat_lit 1), (nat_lit 4294967296, nat_lit 41, nat_lit 0), (nat_lit 169230328010303641331690318856389386196071598838855992136870091590247882556495704531248437872567112920983350278405979725889536, nat_lit 40, nat_lit 3), (nat_lit 4294967296, nat_lit 40, nat_lit 2), (nat_lit 4294967296, nat_lit 40, nat_lit 1), (nat_lit 4294967296, nat_lit 40, nat_lit 0), (nat_lit 169230328010303641331690318856389386196071598838855992136870091590247882556495704531248437872567112920983350278405979725889536, nat_lit 39, nat_lit 3), (nat_lit 4294967296, nat_lit 39, nat_lit 2), (nat_lit 4294967296, nat_lit 39, nat_lit 1), (nat_lit 4294967296, nat_lit 39, nat_lit 0), (nat_lit 169230328010303641331690318856389386196071598838855992136870091590247882556495704531248437872567112920983350278405979725889536, nat_lit 38, nat_lit 3), (nat_lit 4294967296, nat_lit 38, nat_lit 2), (nat_lit 4294967296, nat_lit 38, nat_lit 1), (nat_lit 4294967296, nat_lit 38, nat_lit 0), (nat_lit 169230328010303641331690318856389386196071598838855992136870091590247882556495704531248437872567112920983350278405979725889536, nat_lit 37, nat_lit 3), (nat_lit 4294967296, nat_lit 37, nat_lit 2), (nat_lit 4294967296, nat_lit 37, nat_lit 1), (nat_lit 4294967296, nat_lit 37, nat_lit 0), (nat_lit 169230328010303641331690318856389386196071598838855992136870091590247882556495704531248437872567112920983350278405979725889536, nat_lit 36, nat_lit 3), (nat_lit 4294967296, nat_lit 36, nat_lit 2), (nat_lit 4294967296, nat_lit 36, nat_lit 1), (nat_lit 4294967296, nat_lit 36, nat_lit 0), (nat_lit 169230328010303641331690318856389386196071598838855992136870091590247882556495704531248437872567112920983350278405979725889536, nat_lit 35, nat_lit 3), (nat_lit 4294967296, nat_lit 35, nat_lit 2), (nat_lit 4294967296, nat_lit 35, nat_lit 1), (nat_lit 4294967296, nat_lit 35, nat_lit 0), (nat_lit 169230328010303641331690318856389386196071598838855992136870091590247882556495704531248437872567112920983350278405979725889536, nat_lit 34, nat_lit 3), (nat_lit 4294967296, nat_lit 34, nat_lit 2), (nat_lit 4294967296, nat_lit 34, nat_lit 1), (nat_lit 4294967296, nat_lit 34, nat_lit 0), (nat_lit 169230328010303641331690318856389386196071598838855992136870091590247882556495704531248437872567112920983350278405979725889536, nat_lit 33, nat_lit 3), (nat_lit 4294967296, nat_lit 33, nat_lit 2), (nat_lit 4294967296, nat_lit 33, nat_lit 1), (nat_lit 4294967296, nat_lit 33, nat_lit 0), (nat_lit 169230328010303641331690318856389386196071598838855992136870091590247882556495704531248437872567112920983350278405979725889536, nat_lit 32, nat_lit 3), (nat_lit 4294967296, nat_lit 32, nat_lit 2), (nat_lit 4294967296, nat_lit 32, nat_lit 1), (nat_lit 4294967296, nat_lit 32, nat_lit 0), (nat_lit 169230328010303641331690318856389386196071598838855992136870091590247882556495704531248437872567112920983350278405979725889536, nat_lit 31, nat_lit 3), (nat_lit 4294967296, nat_lit 31, nat_lit 2), (nat_lit 4294967296, nat_lit 31, nat_lit 1), (nat_lit 4294967296, nat_lit 31, nat_lit 0), (nat_lit 169230328010303641331690318856389386196071598838855992136870091590247882556495704531248437872567112920983350278405979725889536, nat_lit 30, nat_lit 3), (nat_lit 4294967296, nat_lit 30, nat_lit 2), (nat_lit 4294967296, nat_lit 30, nat_lit 1), (nat_lit 4294967296, nat_lit 30, nat_lit 0), (nat_lit 4294967296, nat_lit 29, nat_lit 15), (nat_lit 4294967296, nat_lit 29, nat_lit 14), (nat_lit 4294967296, nat_lit 29, nat_lit 13), (nat_lit 4294967296, nat_lit 29, nat_lit 12), (nat_lit 4294967296, nat_lit 29, nat_lit 11), (nat_lit 4294967296, nat_lit 29, nat_lit 10), (nat_lit 4294967296, nat_lit 29, nat_lit 9), (nat_lit 4294967296, nat_lit 29, nat_lit 8), (nat_lit 4294967296, nat_lit 29, nat_lit 7), (nat_lit 4294967296, nat_lit 29, nat_lit 6), (nat_lit 4294967296, nat_lit 29, nat_lit 5), (nat_lit 4294967296, nat_lit 29, nat_lit 4), (nat_lit 4294967296, nat_lit 29, nat_lit 3), (nat_lit 340282366920938463463374607431768211456, nat_lit 28, nat_lit 15), (nat_lit 4294967296, nat_lit 28, nat_lit 14), (nat_lit 4294967296, nat_lit 28, nat_lit 13), (nat_lit 4294967296, nat_lit 28, nat_lit 12), (nat_lit 4294967296, nat_lit 28, nat_lit 11), (nat_lit 4294967296, nat_lit 28, nat_lit 10), (nat_lit 4294967296, nat_lit 28, nat_lit 9), (nat_lit 4294967296, nat_lit 28, nat_lit 8), (nat_lit 4294967296, nat_lit 28, nat_lit 7), (nat_lit 4294967296, nat_lit 28, nat_lit 6), (nat_lit 4294967296, nat_lit 28, nat_lit 5), (nat_lit 4294967296, nat_lit 28, nat_lit 4), (nat_lit 4294967296, nat_lit 28, nat_lit 3), (nat_lit 340282366920938463463374607431768211456, nat_lit 27, nat_lit 15), (nat_lit 4294967296, nat_lit 27, nat_lit 14), (nat_lit 4294967296, nat_lit 27, nat_lit 13), (nat_lit 4294967296, nat_lit 27, nat_lit 12), (nat_lit 4294967296, nat_lit 27, nat_lit 11), (nat_lit 4294967296, nat_lit 27, nat_lit 10), (nat_lit 4294967296, nat_lit 27, nat_lit 9), (nat_lit 4294967296, nat_lit 27, nat_lit 8), (nat_lit 4294967296, nat_lit 27, nat_lit 7), (nat_lit 4294967296, nat_lit 27, nat_lit 6), (nat_lit 4294967296, nat_lit 27, nat_lit 5), (nat_lit 4294967296, nat_lit 27, nat_lit 4), (nat_lit 4294967296, nat_lit 27, nat_lit 3), (nat_lit 340282366920938463463374607431768211456, nat_lit 26, nat_lit 15), (nat_lit 4294967296, nat_lit 26, nat_lit 14), (nat_lit 4294967296, nat_lit 26, nat_lit 13), (nat_lit 4294967296, nat_lit 26, nat_lit 12), (nat_lit 4294967296, nat_lit 26, nat_lit 11), (nat_lit 4294967296, nat_lit 26, nat_lit 10), (nat_lit 4294967296, nat_lit 26, nat_lit 9), (nat_lit 4294967296, nat_lit 26, nat_lit 8), (nat_lit 4294967296, nat_lit 26, nat_lit 7), (nat_lit 4294967296, nat_lit 26, nat_lit 6), (nat_lit 4294967296, nat_lit 26, nat_lit 5), (nat_lit 4294967296, nat_lit 26, nat_lit 4), (nat_lit 4294967296, nat_lit 26, nat_lit 3), (nat_lit 340282366920938463463374607431768211456, nat_lit 25, nat_lit 15), (nat_lit 4294967296, nat_lit 25, nat_lit 14), (nat_lit 4294967296, nat_lit 25, nat_lit 13), (nat_lit 4294967296, nat_lit 25, nat_lit 12), (nat_lit 4294967296, nat_lit 25, nat_lit 11), (nat_lit 4294967296, nat_lit 25, nat_lit 10), (nat_lit 4294967296, nat_lit 25, nat_lit 9), (nat_lit 4294967296, nat_lit 25, nat_lit 8), (nat_lit 4294967296, nat_lit 25, nat_lit 7), (nat_lit 4294967296, nat_lit 25, nat_lit 6), (nat_lit 4294967296, nat_lit 25, nat_lit 5), (nat_lit 4294967296, nat_lit 25, nat_lit 4), (nat_lit 4294967296, nat_lit 25, nat_lit 3), (nat_lit 340282366920938463463374607431768211456, nat_lit 24, nat_lit 15), (nat_lit 4294967296, nat_lit 24, nat_lit 14), (nat_lit 4294967296, nat_lit 24, nat_lit 13), (nat_lit 4294967296, nat_lit 24, nat_lit 12), (nat_lit 4294967296, nat_lit 24, nat_lit 11), (nat_lit 4294967296, nat_lit 24, nat_lit 10), (nat_lit 4294967296, nat_lit 24, nat_lit 9), (nat_lit 4294967296, nat_lit 24, nat_lit 8), (nat_lit 4294967296, nat_lit 24, nat_lit 7), (nat_lit 4294967296, nat_lit 24, nat_lit 6), (nat_lit 4294967296, nat_lit 24, nat_lit 5), (nat_lit 4294967296, nat_lit 24, nat_lit 4), (nat_lit 4294967296, nat_lit 24, nat_lit 3), (nat_lit 340282366920938463463374607431768211456, nat_lit 23, nat_lit 15), (nat_lit 4294967296, nat_lit 23, nat_lit 14), (nat_lit 4294967296, nat_lit 23, nat_lit 13), (nat_lit 4294967296, nat_lit 23, nat_lit 12), (nat_lit 4294967296, nat_lit 23, nat_lit 11), (nat_lit 4294967296, nat_lit 23, nat_lit 10), (nat_lit 4294967296, nat_lit 23, nat_lit 9), (nat_lit 4294967296, nat_lit 23, nat_lit 8), (nat_lit 4294967296, nat_lit 23, nat_lit 7), (nat_lit 4294967296, nat_lit 23, nat_lit 6), (nat_lit 4294967296, nat_lit 23, nat_lit 5), (nat_lit 4294967296, nat_lit 23, nat_lit 4), (nat_lit 4294967296, nat_lit 23, nat_lit 3), (nat_lit 340282366920938463463374607431768211456, nat_lit 22, nat_lit 15), (nat_lit 4294967296, nat_lit 22, nat_lit 14), (nat_lit 4294967296, nat_lit 22, nat_lit 13), (nat_lit 4294967296, nat_lit 22, nat_lit 12), (nat_lit 4294967296, nat_lit 22, nat_lit 11), (nat_lit 4294967296, nat_lit 22, nat_lit 10), (nat_lit 4294967296, nat_lit 22, nat_lit 9), (nat_lit 4294967296, nat_lit 22, nat_lit 8), (nat_lit 4294967296, nat_lit 22, nat_lit 7), (nat_lit 4294967296, nat_lit 22, nat_lit 6), (nat_lit 4294967296, nat_lit 22, nat_lit 5), (nat_lit 4294967296, nat_lit 22, nat_lit 4), (nat_lit 4294967296, nat_lit 22, nat_lit 3), (nat_lit 340282366920938463463374607431768211456, nat_lit 21, nat_lit 15), (nat_lit 4294967296, nat_lit 21, nat_lit 14), (nat_lit 4294967296, nat_lit 21, nat_lit 13), (nat_lit 4294967296, nat_lit 21, nat_lit 12), (nat_lit 4294967296, nat_lit 21, nat_lit 11), (nat_lit 4294967296, nat_lit 21, nat_lit 10), (nat_lit 4294967296, nat_lit 21, nat_lit 9), (nat_lit 4294967296, nat_lit 21, nat_lit 8), (nat_lit 4294967296, nat_lit 21, nat_lit 7), (nat_lit 4294967296, nat_lit 21, nat_lit 6), (nat_lit 4294967296, nat_lit 21, nat_lit 5), (nat_lit 4294967296, nat_lit 21, nat_lit 4), (nat_lit 4294967296, nat_lit 21, nat_lit 3), (nat_lit 340282366920938463463374607431768211456, nat_lit 20, nat_lit 15), (nat_lit 4294967296, nat_lit 20, nat_lit 14), (nat_lit 4294967296, nat_lit 20, nat_lit 13), (nat_lit 4294967296, nat_lit 20, nat_lit 12), (nat_lit 4294967296, nat_lit 20, nat_lit 11), (nat_lit 4294967296, nat_lit 20, nat_lit 10), (nat_lit 4294967296, nat_lit 20, nat_lit 9), (nat_lit 4294967296, nat_lit 20, nat_lit 8), (nat_lit 4294967296, nat_lit 20, nat_lit 7), (nat_lit 4294967296, nat_lit 20, nat_lit 6), (nat_lit 4294967296, nat_lit 20, nat_lit 5), (nat_lit 4294967296, nat_lit 20, nat_lit 4), (nat_lit 4294967296, nat_lit 20, nat_lit 3), (nat_lit 340282366920938463463374607431768211456, nat_lit 19, nat_lit 15), (nat_lit 4294967296, nat_lit 19, nat_lit 14), (nat_lit 4294967296, nat_lit 19, nat_lit 13), (nat_lit 4294967296, nat_lit 19, nat_lit 12), (nat_lit 4294967296, nat_lit 19, nat_lit 11), (nat_lit 4294967296, nat_lit 19, nat_lit 10), (nat_lit 4294967296, nat_lit 19, nat_lit 9), (nat_lit 4294967296, nat_lit 19, nat_lit 8), (nat_lit 4294967296, nat_lit 19, nat_lit 7), (nat_lit 4294967296, nat_lit 19, nat_lit 6), (nat_lit 4294967296, nat_lit 19, nat_lit 5), (nat_lit 4294967296, nat_lit 19, nat_lit 4), (nat_lit 4294967296, nat_lit 19, nat_lit 3), (nat_lit 340282366920938463463374607431768211456, nat_lit 18, nat_lit 15), (nat_lit 4294967296, nat_lit 18, nat_lit 14), (nat_lit 4294967296, nat_lit 18, nat_lit 13), (nat_lit 4294967296, nat_lit 18, nat_lit 12), (nat_lit 4294967296, nat_lit 18, nat_lit 11), (nat_lit 4294967296, nat_lit 18, nat_lit 10), (nat_lit 4294967296, nat_lit 18, nat_lit 9), (nat_lit 4294967296, nat_lit 18, nat_lit 8), (nat_lit 4294967296, nat_lit 18, nat_lit 7), (nat_lit 4294967296, nat_lit 18, nat_lit 6), (nat_lit 4294967296, nat_lit 18, nat_lit 5), (nat_lit 4294967296, nat_lit 18, nat_lit 4), (nat_lit 4294967296, nat_lit 18, nat_lit 3), (nat_lit 340282366920938463463374607431768211456, nat_lit 17, nat_lit 15), (nat_lit 4294967296, nat_lit 17, nat_lit 14), (nat_lit 4294967296, nat_lit 17, nat_lit 13), (nat_lit 4294967296, nat_lit 17, nat_lit 12), (nat_lit 4294967296, nat_lit 17, nat_lit 11), (nat_lit 4294967296, nat_lit 17, nat_lit 10), (nat_lit 4294967296, nat_lit 17, nat_lit 9), (nat_lit 4294967296, nat_lit 17, nat_lit 8), (nat_lit 4294967296, nat_lit 17, nat_lit 7), (nat_lit 4294967296, nat_lit 17, nat_lit 6), (nat_lit 4294967296, nat_lit 17, nat_lit 5), (nat_lit 4294967296, nat_lit 17, nat_lit 4), (nat_lit 4294967296, nat_lit 17, nat_lit 3), (nat_lit 340282366920938463463374607431768211456, nat_lit 16, nat_lit 15), (nat_lit 4294967296, nat_lit 16, nat_lit 14), (nat_lit 4294967296, nat_lit 16, nat_lit 13), (nat_lit 4294967296, nat_lit 16, nat_lit 12), (nat_lit 4294967296, nat_lit 16, nat_lit 11), (nat_lit 4294967296, nat_lit 16, nat_lit 10), (nat_lit 4294967296, nat_lit 16, nat_lit 9), (nat_lit 4294967296, nat_lit 16, nat_lit 8), (nat_lit 4294967296, nat_lit 16, nat_lit 7), (nat_lit 4294967296, nat_lit 16, nat_lit 6), (nat_lit 4294967296, nat_lit 16, nat_lit 5), (nat_lit 4294967296, nat_lit 16, nat_lit 4), (nat_lit 4294967296, nat_lit 16, nat_lit 3), (nat_lit 340282366920938463463374607431768211456, nat_lit 15, nat_lit 15), (nat_lit 4294967296, nat_lit 15, nat_lit 14), (nat_lit 4294967296, nat_lit 15, nat_lit 13), (nat_lit 4294967296, nat_lit 15, nat_lit 12), (nat_lit 4294967296, nat_lit 15, nat_lit 11), (nat_lit 4294967296, nat_lit 15, nat_lit 10), (nat_lit 4294967296, nat_lit 15, nat_lit 9), (nat_lit 4294967296, nat_lit 15, nat_lit 8), (nat_lit 4294967296, nat_lit 15, nat_lit 7), (nat_lit 4294967296, nat_lit 15, nat_lit 6), (nat_lit 4294967296, nat_lit 15, nat_lit 5), (nat_lit 4294967296, nat_lit 15, nat_lit 4), (nat_lit 4294967296, nat_lit 15, nat_lit 3), (nat_lit 340282366920938463463374607431768211456, nat_lit 14, nat_lit 15), (nat_lit 4294967296, nat_lit 14, nat_lit 14), (nat_lit 4294967296, nat_lit 14, nat_lit 13), (nat_lit 4294967296, nat_lit 14, nat_lit 12), (nat_lit 4294967296, nat_lit 14, nat_lit 11), (nat_lit 4294967296, nat_lit 14, nat_lit 10), (nat_lit 4294967296, nat_lit 14, nat_lit 9), (nat_lit 4294967296, nat_lit 14, nat_lit 8), (nat_lit 4294967296, nat_lit 14, nat_lit 7), (nat_lit 4294967296, nat_lit 14, nat_lit 6), (nat_lit 4294967296, nat_lit 14, nat_lit 5), (nat_lit 4294967296, nat_lit 14, nat_lit 4), (nat_lit 4294967296, nat_lit 14, nat_lit 3), (nat_lit 340282366920938463463374607431768211456, nat_lit 13, nat_lit 15), (nat_lit 4294967296, nat_lit 13, nat_lit 14), (nat_lit 4294967296, nat_lit 13, nat_lit 13), (nat_lit 4294967296, nat_lit 13, nat_lit 12), (nat_lit 4294967296, nat_lit 13, nat_lit 11), (nat_lit 4294967296, nat_lit 13, nat_lit 10), (nat_lit 4294967296, nat_lit 13, nat_lit 9), (nat_lit 4294967296, nat_lit 13, nat_lit 8), (nat_lit 4294967296, nat_lit 13, nat_lit 7), (nat_lit 4294967296, nat_lit 13, nat_lit 6), (nat_lit 4294967296, nat_lit 13, nat_lit 5), (nat_lit 4294967296, nat_lit 13, nat_lit 4), (nat_lit 4294967296, nat_lit 13, nat_lit 3), (nat_lit 340282366920938463463374607431768211456, nat_lit 12, nat_lit 15), (nat_lit 4294967296, nat_lit 12, nat_lit 14), (nat_lit 4294967296, nat_lit 12, nat_lit 13), (nat_lit 4294967296, nat_lit 12, nat_lit 12), (nat_lit 4294967296, nat_lit 12, nat_lit 11), (nat_lit 4294967296, nat_lit 12, nat_lit 10), (nat_lit 4294967296, nat_lit 12, nat_lit 9), (nat_lit 4294967296, nat_lit 12, nat_lit 8), (nat_lit 4294967296, nat_lit 12, nat_lit 7), (nat_lit 4294967296, nat_lit 12, nat_lit 6), (nat_lit 4294967296, nat_lit 12, nat_lit 5), (nat_lit 4294967296, nat_lit 12, nat_lit 4), (nat_lit 4294967296, nat_lit 12, nat_lit 3), (nat_lit 340282366920938463463374607431768211456, nat_lit 11, nat_lit 15), (nat_lit 4294967296, nat_lit 11, nat_lit 14), (nat_lit 4294967296, nat_lit 11, nat_lit 13), (nat_lit 4294967296, nat_lit 11, nat_lit 12), (nat_lit 4294967296, nat_lit 11, nat_lit 11), (nat_lit 4294967296, nat_lit 11, nat_lit 10), (nat_lit 4294967296, nat_lit 11, nat_lit 9), (nat_lit 4294967296, nat_lit 11, nat_lit 8), (nat_lit 4294967296, nat_lit 11, nat_lit 7), (nat_lit 4294967296, nat_lit 11, nat_lit 6), (nat_lit 4294967296, nat_lit 11, nat_lit 5), (nat_lit 4294967296, nat_lit 11, nat_lit 4), (nat_lit 4294967296, nat_lit 11, nat_lit 3), (nat_lit 340282366920938463463374607431768211456, nat_lit 10, nat_lit 15), (nat_lit 4294967296, nat_lit 10, nat_lit 14), (nat_lit 4294967296, nat_lit 10, nat_lit 13), (nat_lit 4294967296, nat_lit 10, nat_lit 12), (nat_lit 4294967296, nat_lit 10, nat_lit 11), (nat_lit 4294967296, nat_lit 10, nat_lit 10), (nat_lit 4294967296, nat_lit 10, nat_lit 9), (nat_lit 4294967296, nat_lit 10, nat_lit 8), (nat_lit 4294967296, nat_lit 10, nat_lit 7), (nat_lit 4294967296, nat_lit 10, nat_lit 6), (nat_lit 4294967296, nat_lit 10, nat_lit 5), (nat_lit 4294967296, nat_lit 10, nat_lit 4), (nat_lit 4294967296, nat_lit 10, nat_lit 3), (nat_lit 13407807929942597099574024998205846127479365820592393377723561443721764030073546976801874298166903427690031858186486050853753882811946569946433649006084096, nat_lit 9, nat_lit 3), (nat_lit 4294967296, nat_lit 9, nat_lit 2), (nat_lit 4294967296, nat_lit 9, nat_lit 1), (nat_lit 4294967296, nat_lit 9, nat_lit 0), (nat_lit 169230328010303641331690318856389386196071598838855992136870091590247882556495704531248437872567112920983350278405979725889536, nat_lit 8, nat_lit 3), (nat_lit 4294967296, nat_lit 8, nat_lit 2), (nat_lit 4294967296, nat_lit 8, nat_lit 1), (nat_lit 4294967296, nat_lit 8, nat_lit 0), (nat_lit 169230328010303641331690318856389386196071598838855992136870091590247882556495704531248437872567112920983350278405979725889536, nat_lit 7, nat_lit 3), (nat_lit 4294967296, nat_lit 7, nat_lit 2), (nat_lit 4294967296, nat_lit 7, nat_lit 1), (nat_lit 4294967296, nat_lit 7, nat_lit 0), (nat_lit 169230328010303641331690318856389386196071598838855992136870091590247882556495704531248437872567112920983350278405979725889536, nat_lit 6, nat_lit 3), (nat_lit 4294967296, nat_lit 6, nat_lit 2), (nat_lit 4294967296, nat_lit 6, nat_lit 1), (nat_lit 4294967296, nat_lit 6, nat_lit 0), (nat_lit 169230328010303641331690318856389386196071598838855992136870091590247882556495704531248437872567112920983350278405979725889536, nat_lit 5, nat_lit 3), (nat_lit 4294967296, nat_lit 5, nat_lit 2), (nat_lit 4294967296, nat_lit 5, nat_lit 1), (nat_lit 4294967296, nat_lit 5, nat_lit 0), (nat_lit 169230328010303641331690318856389386196071598838855992136870091590247882556495704531248437872567112920983350278405979725889536, nat_lit 4, nat_lit 3), (nat_lit 4294967296, nat_lit 4, nat_lit 2), (nat_lit 4294967296, nat_lit 4, nat_lit 1), (nat_lit 4294967296, nat_lit 4, nat_lit 0), (nat_lit 39402006196394479212279040100143613805079739270465446667948293404245721771497210611414266254884915640806627990306816, nat_lit 3, nat_lit 4), (nat_lit 4294967296, nat_lit 3, nat_lit 3), (nat_lit 4294967296, nat_lit 3, nat_lit 2), (nat_lit 4294967296, nat_lit 3, nat_lit 1), (nat_lit 4294967296, nat_lit 3, nat_lit 0), (nat_lit 1649202686712629803806063067130737550844681000512098903831312258758819999519659215061244852835438329293095918426871257654898497186480677557300128351536552723283831706120398649214755234811189842023838660313636158426656272424719647074536158117596426456971996634772938122685910425597074992947556313443552732799257271525905574173318590564444328229003072894189823850536047217743959912499822124283408970952703272221147136, nat_lit 0, nat_lit 5), (nat_lit 4294967296, nat_lit 0, nat_lit 4), (nat_lit 4294967296, nat_lit 0, nat_lit 3), (nat_lit 79228162514264337593543950336, nat_lit 0, nat_lit 0)]
def rel (c k : Nat) : Bool := if c < 10 then (if c = 0 then decide (3 ≤ k ∧ k < 6) else if c = 3 then decide (k < 5) else decide (4 ≤ c ∧ k < 4)) else if c < 30 then decide (3 ≤ k ∧ k < 16) else if c < 50 then decide (k < 4) else decide (c < 70 ∧ k < 6)
def gG (l : List (Nat × Nat × Nat)) : Nat := (l.map (fun q => q.1)).foldr (fun x y => x * y) 1
/-- the sum's next: what stands is moved on, the value comes in -/
def stN (B : BT) (a : Nat) (p : Nat × Nat × Nat) : Nat := Nat.add (Nat.mul a p.1) (B p.2.1 p.2.2).toUInt32.toNat
theorem v_lt (x : Int32) : x.toUInt32.toNat < 4294967296 := x.toUInt32.toNat_lt
def okP (l : List (Nat × Nat × Nat)) : Bool := l.all (fun q => decide (4294967296 ≤ q.1 ∧ 4294967296 ∣ q.1))
theorem stN_div {B : BT} {a : Nat} {p : Nat × Nat × Nat} (h : 4294967296 ≤ p.1) : stN B a p / p.1 = a := by
  have h1 := v_lt (B p.2.1 p.2.2)
  show (a * p.1 + (B p.2.1 p.2.2).toUInt32.toNat) / p.1 = a
  rw [Nat.add_comm, Nat.add_mul_div_right _ _ (by omega), Nat.div_eq_of_lt (by omega)]
  omega
theorem stN_mod {B : BT} {a : Nat} {p : Nat × Nat × Nat} (h : 4294967296 ∣ p.1) : stN B a p % 4294967296 = (B p.2.1 p.2.2).toUInt32.toNat := by
  have h1 := v_lt (B p.2.1 p.2.2)
  obtain ⟨d, hd⟩ := h
  show (a * p.1 + (B p.2.1 p.2.2).toUInt32.toNat) % 4294967296 = _
  rw [hd, show a * (4294967296 * d) = 4294967296 * (a * d) from Nat.mul_left_comm _ _ _, Nat.mul_add_mod]
  exact Nat.mod_eq_of_lt h1
theorem fold_hi (B : BT) : ∀ (l : List (Nat × Nat × Nat)) (a : Nat), okP l = true → l.foldl (stN B) a / gG l = a := by
  intro l
  induction l with
  | nil => intro a _; show a / 1 = a; exact Nat.div_one a
  | cons q t ih =>
    intro a ho
    unfold okP at ho
    rw [List.all_cons, Bool.and_eq_true] at ho
    have h := of_decide_eq_true ho.1
    show t.foldl (stN B) (stN B a q) / (q.1 * gG t) = a
    rw [Nat.mul_comm, ← Nat.div_div_eq_div_mul, ih _ ho.2, stN_div h.1]
theorem fold_at (B : BT) : ∀ (l : List (Nat × Nat × Nat)) (a j : Nat) (q : Nat × Nat × Nat), okP l = true → l[j]? = some q → l.foldl (stN B) a / gG (l.drop (j + 1)) % 4294967296 = (B q.2.1 q.2.2).toUInt32.toNat := by
  intro l
  induction l with
  | nil => intro a j q _ h; simp at h
  | cons z t ih =>
    intro a j q ho h
    unfold okP at ho
    rw [List.all_cons, Bool.and_eq_true] at ho
    have h9 := of_decide_eq_true ho.1
    cases j with
    | zero =>
      have e : z = q := by simpa using h
      subst e
      show t.foldl (stN B) (stN B a z) / gG t % 4294967296 = _
      rw [fold_hi B t _ ho.2, stN_mod h9.2]
    | succ j =>
      have e : t[j]? = some q := by simpa using h
      exact ih _ _ _ ho.2 e
/-- a book out of one number -/
def rdN (N : Nat) : BT := fun c k => Int32.ofNat (Nat.mod (Nat.shiftRight N (Nat.mul (nat_lit 32) (Nat.add (Nat.mul (nat_lit 16) c) k))) (nat_lit 4294967296))
def nrm (B : BT) : BT := rdN (plc.foldl (stN B) 0)
/-- each number's place in the list, looked for -/
def plJ (c k : Nat) : Nat := plc.findIdx (fun q => q.2.1 == c && q.2.2 == k)
theorem plc_ok : okP plc = true := by decide +kernel
theorem plc_at0 : ∀ c, c < 70 → ∀ k, k < 16 → rel c k = true → (plc[plJ c k]?.map (fun q => q.2) = some (c, k) ∧ gG (plc.drop (plJ c k + 1)) = 2 ^ (32 * (16 * c + k))) := by decide +kernel
theorem rel_k {c k : Nat} (h : rel c k = true) : c < 70 ∧ k < 16 := by
  unfold rel at h
  by_cases h1 : c < 10
  · rw [if_pos h1] at h
    by_cases h2 : c = 0
    · rw [if_pos h2] at h; have := of_decide_eq_true h; omega
    · rw [if_neg h2] at h
      by_cases h3 : c = 3
      · rw [if_pos h3] at h; have := of_decide_eq_true h; omega
      · rw [if_neg h3] at h; have := of_decide_eq_true h; omega
  · rw [if_neg h1] at h
    by_cases h2 : c < 30
    · rw [if_pos h2] at h; have := of_decide_eq_true h; omega
    · rw [if_neg h2] at h
      by_cases h3 : c < 50
      · rw [if_pos h3] at h; have := of_decide_eq_true h; omega
      · rw [if_neg h3] at h; have := of_decide_eq_true h; omega
theorem i32_rt (x : Int32) : Int32.ofNat x.toUInt32.toNat = x := by
  have h : UInt32.ofNat x.toUInt32.toNat = x.toUInt32 := UInt32.ofNat_toNat
  exact congrArg UInt32.toInt32 h
theorem nrm_at {B : BT} {c k : Nat} (h : rel c k = true) : nrm B c k = B c k := by
  obtain ⟨h1, h2⟩ := rel_k h
  obtain ⟨h3, h4⟩ := plc_at0 c h1 k h2 h
  obtain ⟨q, h5, h6⟩ := Option.map_eq_some_iff.mp h3
  have h7 := fold_at B plc 0 _ _ plc_ok h5
  rw [h4, h6] at h7
  have e : nrm B c k = Int32.ofNat ((plc.foldl (stN B) 0) >>> (32 * (16 * c + k)) % 4294967296) := rfl
  rw [e, Nat.shiftRight_eq_div_pow, h7]
  exact i32_rt _
/-- counted with the value told, not the sum to be made -/
def fcN {α : Type} (n : Nat) (k : Nat → α) : α := Nat.rec (motive := fun _ => α) (k (nat_lit 0)) (fun m _ => k (Nat.succ m)) n
theorem fcN_eq {α : Type} (n : Nat) (k : Nat → α) : fcN n k = k n := by cases n <;> rfl
noncomputable def enc (l : List (Nat × Nat × Nat)) : BT → Nat → (Nat → Bool) → Bool := List.rec (motive := fun _ => BT → Nat → (Nat → Bool) → Bool) (fun _ a k => k a) (fun q _ ih B a k => fcN (stN B a q) (fun v => ih B v k)) l
theorem enc_eq (B : BT) (k : Nat → Bool) : ∀ (l : List (Nat × Nat × Nat)) (a : Nat), enc l B a k = k (l.foldl (stN B) a) := by
  intro l
  induction l with
  | nil => intro a; rfl
  | cons q t ih =>
    intro a
    show fcN (stN B a q) (fun v => enc t B v k) = _
    rw [fcN_eq, ih, List.foldl_cons]
noncomputable def nrK (B : BT) (k : BT → Bool) : Bool := enc plc B (nat_lit 0) (fun N => k (rdN N))
theorem nrK_eq (B : BT) (k : BT → Bool) : nrK B k = k (nrm B) := enc_eq B _ plc 0
-- ===== the checks =====
def oIs (o : Option String) (E : String) : Bool := match o with
  | none => false
  | some x => x == E
theorem oIs_e {o : Option String} {E : String} (h : oIs o E = true) : o = some E := by
  cases o with
  | none => exact absurd (show false = true from h) (by decide)
  | some x => exact congrArg some (eq_of_beq h)
def oNo (o : Option String) : Bool := match o with
  | none => true
  | some _ => false
theorem oNo_e {o : Option String} (h : oNo o = true) : o = none := by
  cases o with
  | none => rfl
  | some x => exact absurd (show false = true from h) (by decide)
def okW (C : BT) : Bool := decide (C 0 4 = 0 ∨ 0 < C 0 3)
def cX (o : BT → Option String) (E : String) (k : BT → Bool) (B : BT) : Bool := oIs (o B) E && k B
def cQ (o : BT → Option String) (q : BT → Bool) (k : BT → Bool) (B : BT) : Bool := oNo (o B) && (q B && k B)
noncomputable def cC (o : BT → Option String) (f : BT → Int32 × BT) (q : Int32 → Bool) (k : BT → Bool) (B : BT) : Bool := oNo (o B) && (q (f B).1 && (okW (f B).2 && nrK (f B).2 k))
theorem cX_e {o : BT → Option String} {E : String} {k : BT → Bool} {B : BT} (h : cX o E k B = true) : o B = some E ∧ k B = true := by
  unfold cX at h
  rw [Bool.and_eq_true] at h
  exact ⟨oIs_e h.1, h.2⟩
theorem cQ_e {o : BT → Option String} {q : BT → Bool} {k : BT → Bool} {B : BT} (h : cQ o q k B = true) : o B = none ∧ q B = true ∧ k B = true := by
  unfold cQ at h
  rw [Bool.and_eq_true, Bool.and_eq_true] at h
  exact ⟨oNo_e h.1, h.2⟩
theorem cC_e {o : BT → Option String} {f : BT → Int32 × BT} {q : Int32 → Bool} {k : BT → Bool} {B : BT} (h : cC o f q k B = true) : o B = none ∧ q (f B).1 = true ∧ okW (f B).2 = true ∧ k (nrm (f B).2) = true := by
  unfold cC at h
  rw [Bool.and_eq_true, Bool.and_eq_true, Bool.and_eq_true, nrK_eq] at h
  exact ⟨oNo_e h.1, h.2⟩
def vIs (v r : Int32) : Bool := decide (r = v)
theorem vIs_e {v r : Int32} (h : vIs v r = true) : r = v := of_decide_eq_true h
def vNn (r : Int32) : Bool := decide (¬ r < 0)
theorem vNn_e {r : Int32} (h : vNn r = true) : ¬ r < 0 := of_decide_eq_true h
-- ===== what holds behind t calls =====
theorem rel_lv {n m c k : Nat} (hn : n ≤ 6) (hm : m ≤ 20) (h : sm_lv n m c k) : rel c k = true := by
  unfold rel
  rcases h with ⟨rfl, h1, h2⟩ | ⟨rfl, h1⟩ | ⟨h1, h2, h3⟩ | ⟨h1, h2, h3, h4⟩ | ⟨h1, h2, h3⟩ | ⟨h1, h2, h3⟩
  · rw [if_pos (by omega), if_pos rfl]; exact decide_eq_true (by omega)
  · rw [if_pos (by omega), if_neg (by omega), if_pos rfl]; exact decide_eq_true (by omega)
  · rw [if_pos (by omega), if_neg (by omega), if_neg (by omega)]; exact decide_eq_true (by omega)
  · rw [if_neg (by omega), if_pos (by omega)]; exact decide_eq_true (by omega)
  · rw [if_neg (by omega), if_neg (by omega), if_pos (by omega)]; exact decide_eq_true (by omega)
  · rw [if_neg (by omega), if_neg (by omega), if_neg (by omega)]; exact decide_eq_true (by omega)
theorem CN.nrm {B : BT} {n m : Nat} (h : CN B n m) : CN (nrm B) n m := by
  obtain ⟨h1, h2, h3, h4, h5⟩ := h
  refine ⟨by rw [nrm_at (by decide)]; exact h1, by rw [nrm_at (by decide)]; exact h2, h3, h4, fun i hi => ?_⟩
  rw [nrm_at (by unfold rel; rw [if_neg (by omega), if_pos (by omega)]; decide)]
  exact h5 i hi
def VV (t : Nat) (S : Nat → BT) (B : BT) : Prop := ∃ n m ne n1 m1 : Nat, CN B n m ∧ (m = 0 ∨ 0 < n) ∧ CN (S 1) n1 m1 ∧ sm_E (va_up S 0 B) n m ne ∧ ne ≤ t
theorem VV.nx {t t' : Nat} {S : Nat → BT} {B : BT} (h : VV t S B) (ht : t ≤ t') : VV t' S B := by
  obtain ⟨n, m, ne, n1, m1, h1, h2, h3, h4, h5⟩ := h
  exact ⟨n, m, ne, n1, m1, h1, h2, h3, h4, by omega⟩
theorem va_up2 (S : Nat → BT) (B C : BT) : va_up (va_up S 0 B) 0 C = va_up S 0 C := by
  funext j
  by_cases h : j = 0 <;> simp [va_up, h]
theorem VV.cnt {t : Nat} {S : Nat → BT} {B : BT} (h : VV t S B) : ∃ n m ne n1 m1 : Nat, CN B n m ∧ CN (S 1) n1 m1 ∧ (¬ S 2 0 1 < 0) ∧ S 2 0 1 = nI ne ∧ ne ≤ 512 := by
  obtain ⟨n, m, ne, n1, m1, h1, h2, h3, h4, h5⟩ := h
  obtain ⟨e1, e2, -⟩ := h4
  have e3 : S 2 0 1 = nI ne := by
    have e9 : va_up S 0 B 2 = S 2 := by simp [va_up]
    rw [e9] at e1; exact e1
  exact ⟨n, m, ne, n1, m1, h1, h3, by rw [e3]; exact nI_pos (by omega), e3, e2⟩
theorem VV.ev {t : Nat} {S : Nat → BT} {B : BT} (h : VV t S B) (ht : t < 512) {k a1 a2 a3 a4 : Int32} {C : BT} (hC : C = (f_X0_apply k a1 a2 a3 a4 B).2) (hw : okW C = true) : VV (t + 1) (f_X2_keep k a1 a2 a3 a4 S) (nrm C) := by
  obtain ⟨n, m, ne, n1, m1, h1, h2, h3, h4, h5⟩ := h
  obtain ⟨n', m', hN⟩ := cnx_X0_apply (a1 := k) (a2 := a1) (a3 := a2) (a4 := a3) (a5 := a4) h1
  have hA : va_up S 0 B 0 = B := va_up_at S 0 B
  have hE := h4.ev (by rw [hA]; exact ⟨h1.1, h1.2.1, h1.2.2.1, h1.2.2.2.1, h2⟩) (by omega) k a1 a2 a3 a4 (n' := n') (m' := m') (by rw [hA]; exact hN.1) (by rw [hA]; exact hN.2.1) hN.2.2.1 hN.2.2.2.1
  rw [hA, ← hC, keep_up, va_up2] at hE
  rw [← hC] at hN
  have hk := sm_keep (S := va_up S 0 B) h4.1 (by omega) k a1 a2 a3 a4
  have hk1 : f_X2_keep k a1 a2 a3 a4 S 1 = S 1 := by
    have e := hk.1.2
    rw [keep_up] at e
    simpa [va_up] using e
  refine ⟨n', m', ne + 1, n1, m1, hN.nrm, ?_, by rw [hk1]; exact h3, ?_, by omega⟩
  · have h9 := of_decide_eq_true hw
    rw [hN.1, hN.2.1] at h9
    have q1 := hN.2.2.1
    have q2 := hN.2.2.2.1
    rcases h9 with h9 | h9
    · left; rw [show (0 : Int32) = nI 0 from rfl, nI_eq (by omega) (by omega)] at h9; exact h9
    · right; rw [show (0 : Int32) = nI 0 from rfl, nI_ltI (by omega) (by omega)] at h9; exact h9
  · obtain ⟨e1, e2, e3⟩ := hE
    have e9 : ∀ X : BT, va_up (f_X2_keep k a1 a2 a3 a4 S) 0 X 2 = f_X2_keep k a1 a2 a3 a4 S 2 := fun X => by simp [va_up]
    refine ⟨by rw [e9] at e1 ⊢; exact e1, e2, fun B1 c q hc => ?_⟩
    have e4 := e3 B1 c q hc
    rw [va_up_at] at e4 ⊢
    rw [nrm_at (rel_lv hN.2.2.1 hN.2.2.2.1 hc), e4]
    rw [sm_tell_c (S := va_up (f_X2_keep k a1 a2 a3 a4 S) 0 C) (S' := va_up (f_X2_keep k a1 a2 a3 a4 S) 0 (nrm C)) (ne + 1) (fun q _ => by rw [e9, e9])]
theorem VV.one {t : Nat} {S : Nat → BT} {B : BT} (h : VV t S B) (ho : f_X0_isOrderly B = 1) : f_X6_isSound (va_up S 0 B) = 1 := by
  obtain ⟨n, m, ne, n1, m1, h1, h2, h3, h4, h5⟩ := h
  have hA : va_up S 0 B 0 = B := va_up_at S 0 B
  obtain ⟨e1, e2, e3⟩ := h4
  unfold f_X6_isSound
  rw [hA, ho, if_neg (by decide)]
  have e0 : ∀ Y : BT, va_up (va_up S 0 B) 1 Y 0 = B := fun Y => by simp [va_up]
  have hz : sm_Z n m (va_up (va_up S 0 B) 1 (f_X2_tellAgain (va_up S 0 B) (va_up S 0 B 1)) 0) (va_up (va_up S 0 B) 1 (f_X2_tellAgain (va_up S 0 B) (va_up S 0 B 1)) 1) := by
    rw [va_up_at, e0]
    unfold f_X2_tellAgain
    rw [e1, nI_clamp (by omega)]
    have e4 := e3 (va_up S 0 B 1)
    rw [hA] at e4
    exact ⟨e4, h1.1, h1.2.1, h1.2.2.1, h1.2.2.2.1, h2⟩
  rw [sm_mat hz, if_neg (by decide)]
theorem VV.snd {t : Nat} {S : Nat → BT} {B : BT} (h : VV t S B) : VV t (va_up S 1 (f_X2_tellAgain (va_up S 0 B) (S 1))) B := by
  obtain ⟨n, m, ne, n1, m1, h1, h2, h3, h4, h5⟩ := h
  obtain ⟨e1, e2, e3⟩ := h4
  have e9 : ∀ Y : BT, va_up (va_up S 1 Y) 0 B 2 = va_up S 0 B 2 := fun Y => by simp [va_up]
  obtain ⟨n2, m2, h9⟩ := cnx_tellAgain h3 (va_up S 0 B) (((va_up S 0 B) 2 0 1).toNatClampNeg)
  refine ⟨n, m, ne, n2, m2, h1, h2, by rw [va_up_at]; exact h9, ⟨by rw [e9]; exact e1, e2, fun B1 => ?_⟩, h5⟩
  rw [va_up_at, sm_tell_c (S := va_up S 0 B) ne (fun q _ => by rw [e9])]
  have e4 := e3 B1
  rw [va_up_at] at e4
  exact e4
